def Pk (h : Hl) (s : Nat) : Prop := wOK h (dec s)
def cgM (h : Hl) (r : Br) (tt : Nat) (q W : Nat → Nat) (x e : Nat) : Nat := sm (fun s => if wiE h r tt s e = 0 ∧ nxE h r tt s e = x then W s * q e else 0) 46656
def cgG (h : Hl) (r : Br) (tt : Nat) (q W : Nat → Nat) (nm e : Nat) : Nat := sm (fun s => if wiE h r tt s e = nm + 1 then W s * q e else 0) 46656
theorem cgM_sum (h : Hl) (r : Br) (tt : Nat) (q W : Nat → Nat) (x : Nat) : sm (cgM h r tt q W x) 4 = stW 46656 (nxE h r tt) (wiE h r tt) q W x := (sm_swap _ 46656 4).symm
theorem cgG_sum (h : Hl) (r : Br) (tt : Nat) (q W : Nat → Nat) (nm : Nat) : sm (cgG h r tt q W nm) 4 = gaW 46656 (wiE h r tt) q W nm := (sm_swap _ 46656 4).symm
theorem sm22 (f : Nat → Nat) : sm (fun i => sm (fun j => f (i + 2 * j)) 2) 2 = sm f 4 := by
  show 0 + (0 + f 0 + f 2) + (0 + f 1 + f 3) = 0 + f 0 + f 1 + f 2 + f 3
  omega
theorem nxE_ok {h : Hl} (ok : hOK h) {r : Br} {tt s e : Nat} (hs : Pk h s) : nxE h r tt s e < 46656 ∧ Pk h (nxE h r tt s e) := by
  have o := stS_ok (al := aliv r tt) (md := mdS 0 0 tt) (lk := lke h e) hs
  refine ⟨enc_lt (wOK_lt ok o), ?_⟩
  show wOK h (dec (enc (nxC h r tt s e)))
  rw [dec_fun ok (c := nxC h r tt s e) o]; exact o
theorem wf_sum2 {K n : Nat} {st wt W : Nat → Nat} (hW : ∀ x, wf n st wt x = W x) (hs : ∀ j, j < n → st j < K) (p : Nat → Prop) [DecidablePred p] (q : Nat) : sm (fun j => if p (st j) then wt j * q else 0) n = sm (fun s => if p s then W s * q else 0) K := by
  have e := wf_sum K (fun s => if p s then q else 0) st wt n hs
  have m : ∀ a : Nat, ∀ s, (if p s then a * q else 0) = a * (if p s then q else 0) := fun a s => by
    split
    · rfl
    · rw [Nat.mul_zero]
  rw [sm_congr n (fun j _ => m (wt j) (st j)), sm_congr K (fun s _ => m (W s) s), ← e]
  exact sm_congr K (fun s _ => by rw [hW])
abbrev SpT : Type := Int32 × Int64 × Int32 × Nat × (Nat → Int32) × Nat × (Nat → Int64) × Nat × (Nat → Int32) × Int32 × Int32 × (Nat → Int32) × (Nat → Int32) × (Nat → Int32)
abbrev SqT : Type := Int64 × Int32 × Nat × (Nat → Int32) × Nat × (Nat → Int64) × Nat × (Nat → Int32) × Int32 × Int32 × (Nat → Int32) × (Nat → Int32) × (Nat → Int32)
theorem x_spread {h : Hl} (ok : hOK h) {vb : Int32} {vme vmo vdi vsi vor : Nat → Int32} (t : tX h vb vme vmo vdi vsi vor) {N : Nat} (hN : 300000 ≤ N) {r : Br} (rok : bOK r) {vab vbe vst vlo : Nat → Int32} (rr : rX r vab vbe vst vlo) {tt : Nat} (ht : tt < 32) {nm : Nat} (hnm : nm < 5) (e q : Nat) {W B : Nat → Nat} {vs : Int32} {na nb nc : Nat} {va vc : Nat → Int32} {vw : Nat → Int64} (TN : Tb (Pk h) W vs na va nb vw nc vc) {A : Nat}
    {vs' : Int32} {na' nb' nc' : Nat} {va' vc' : Nat → Int32} {vw' : Nat → Int64} (TT : Tb (Pk h) B vs' na' va' nb' vw' nc' vc') (k1 k2 : Int32) (w1 w2 w3 : Nat → Int32) :
    ∃ u : SqT, f_X1_spread N (lN A) vs na va nb vw vs' na' va' nb' vw' nc' vc' k1 k2 w1 w2 w3 vb vme vmo vdi vsi vor vab vbe vst (nI tt) (nI nm) (nI (bs (lke h e) (hB h))) (lN q) = some u ∧ u.1 = lN (A + cgG h r tt (fun _ => q) W nm e) ∧ Tb (Pk h) (fun x => B x + cgM h r tt (fun _ => q) W x e) u.2.1 u.2.2.1 u.2.2.2.1 u.2.2.2.2.1 u.2.2.2.2.2.1 u.2.2.2.2.2.2.1 u.2.2.2.2.2.2.2.1 := by
  obtain ⟨k, n, st, wt, sl, hk, hn, rfl, rfl, rfl, rfl, S, SA, SB, SC, SD⟩ := TN
  obtain ⟨p1, p2⟩ := p_k hk
  have hlt : ∀ j, j < n → st j < 46656 := fun j hj => (SA j hj).2.1
  have eG : cgG h r tt (fun _ => q) W nm e = sm (fun j => if wiE h r tt (st j) e = nm + 1 then wt j * q else 0) n := (wf_sum2 SD hlt (fun s => wiE h r tt s e = nm + 1) q).symm
  have eM : ∀ x, cgM h r tt (fun _ => q) W x e = sm (fun j => if wiE h r tt (st j) e = 0 ∧ nxE h r tt (st j) e = x then wt j * q else 0) n := fun x => (wf_sum2 SD hlt (fun s => wiE h r tt s e = 0 ∧ nxE h r tt s e = x) q).symm
  have L : ∃ u : SqT, lp (fun s : SpT => f_X1_spread_B3 N (nI n) (32 * 2 ^ k) va (32 * 2 ^ k) vw vb vme vmo vdi vsi vor vab vbe vst (nI tt) (nI nm) (nI (bs (lke h e) (hB h))) (lN q) s.1 s.2.1 s.2.2.1 s.2.2.2.1 s.2.2.2.2.1 s.2.2.2.2.2.1 s.2.2.2.2.2.2.1 s.2.2.2.2.2.2.2.1 s.2.2.2.2.2.2.2.2.1 s.2.2.2.2.2.2.2.2.2.1 s.2.2.2.2.2.2.2.2.2.2.1 s.2.2.2.2.2.2.2.2.2.2.2.1 s.2.2.2.2.2.2.2.2.2.2.2.2.1 s.2.2.2.2.2.2.2.2.2.2.2.2.2) N ((0 : Int32), lN A, vs', na', va', nb', vw', nc', vc', k1, k2, w1, w2, w3) = some u ∧ u.1 = lN (A + cgG h r tt (fun _ => q) W nm e) ∧ Tb (Pk h) (fun x => B x + cgM h r tt (fun _ => q) W x e) u.2.1 u.2.2.1 u.2.2.2.1 u.2.2.2.2.1 u.2.2.2.2.2.1 u.2.2.2.2.2.2.1 u.2.2.2.2.2.2.2.1 := by
    refine lp_rel0 (fun i (s : SpT) => s.1 = nI i ∧ s.2.1 = lN (A + sm (fun j => if wiE h r tt (st j) e = nm + 1 then wt j * q else 0) i) ∧ Tb (Pk h) (fun x => B x + sm (fun j => if wiE h r tt (st j) e = 0 ∧ nxE h r tt (st j) e = x then wt j * q else 0) i) s.2.2.1 s.2.2.2.1 s.2.2.2.2.1 s.2.2.2.2.2.1 s.2.2.2.2.2.2.1 s.2.2.2.2.2.2.2.1 s.2.2.2.2.2.2.2.2.1) _ n (by omega) ⟨rfl, rfl, TT⟩ ?_ ?_
    · rintro i hi s ⟨h1, h2, h3⟩
      left
      obtain ⟨a1, a2, a3⟩ := SA i hi
      obtain ⟨v1, v2, T1, T2, T3⟩ := x_takeState ok t (by omega : 200000 ≤ N) a2 a3 s.2.2.2.2.2.2.2.2.2.2.2.1 s.2.2.2.2.2.2.2.2.2.2.2.2.2
      obtain ⟨w, W1, W2, W3⟩ := x_write ok t (by omega : 200000 ≤ N) rok rr.2.1 (tt := tt) (by omega) (wt := 0) (wn := 0) (by decide) (by decide) (lk := lke h e) (vws := s.2.2.2.2.2.2.2.2.2.2.2.2.1) T2 a3 T3
      have WI := x_winner ok t (by omega : 200000 ≤ N) rok rr.1 W3 (cn_le ok _) ht
      have ST := x_state (by omega : 200000 ≤ N) W2
      have wl := wiS_le h r (cn h (stS h (aliv r tt) (mdS 0 0 tt) (lke h e) (dec (st i)))) tt
      obtain ⟨n1, n2⟩ := nxE_ok ok (r := r) (tt := tt) (e := e) a3
      have RUN : ∀ z, (if wX (wiE h r tt (st i) e) = -1 then ((f_X0_state N w.1).bind (fun u9 => ((f_X3_add N s.2.2.1 s.2.2.2.1 s.2.2.2.2.1 s.2.2.2.2.2.1 s.2.2.2.2.2.2.1 s.2.2.2.2.2.2.2.1 s.2.2.2.2.2.2.2.2.1 u9 (vw i * lN q)).bind (fun u10 => (f_X1_spread_L112 s.1 s.2.1 u10.1 u10.2.1 u10.2.2.1 u10.2.2.2.1 u10.2.2.2.2.1 u10.2.2.2.2.2.1 u10.2.2.2.2.2.2 (wX 0) (nI 0) w.1 w.2.1 w.2.2))))) else (if wX (wiE h r tt (st i) e) = nI nm then (f_X1_spread_L112 s.1 (s.2.1 + (vw i * lN q)) s.2.2.1 s.2.2.2.1 s.2.2.2.2.1 s.2.2.2.2.2.1 s.2.2.2.2.2.2.1 s.2.2.2.2.2.2.2.1 s.2.2.2.2.2.2.2.2.1 (wX 0) (nI 0) w.1 w.2.1 w.2.2) else (f_X1_spread_L112 s.1 s.2.1 s.2.2.1 s.2.2.2.1 s.2.2.2.2.1 s.2.2.2.2.2.1 s.2.2.2.2.2.2.1 s.2.2.2.2.2.2.2.1 s.2.2.2.2.2.2.2.2.1 (wX 0) (nI 0) w.1 w.2.1 w.2.2))) = some z → f_X1_spread_B3 N (nI n) (32 * 2 ^ k) va (32 * 2 ^ k) vw vb vme vmo vdi vsi vor vab vbe vst (nI tt) (nI nm) (nI (bs (lke h e) (hB h))) (lN q) s.1 s.2.1 s.2.2.1 s.2.2.2.1 s.2.2.2.2.1 s.2.2.2.2.2.1 s.2.2.2.2.2.2.1 s.2.2.2.2.2.2.2.1 s.2.2.2.2.2.2.2.2.1 s.2.2.2.2.2.2.2.2.2.1 s.2.2.2.2.2.2.2.2.2.2.1 s.2.2.2.2.2.2.2.2.2.2.2.1 s.2.2.2.2.2.2.2.2.2.2.2.2.1 s.2.2.2.2.2.2.2.2.2.2.2.2.2 = some z := by
        intro z hz
        unfold f_X1_spread_B3
        rw [h1] at hz ⊢
        rw [if_neg (by rw [q_le (by omega) (by omega)]; omega), q_cl (by omega), if_neg (by rw [q_0, q_lt (by omega) (by omega)]; omega), a1]
        refine b_run T1 (b_run W1 ?_)
        rw [if_neg (by rw [q_0, q_lt (by omega) (by omega)]; omega)]
        exact b_run WI hz
      rw [SB i hi, lN_mul] at RUN
      by_cases c : wiE h r tt (st i) e = 0
      · obtain ⟨u, U1, U2⟩ := x_add hN h3 n1 n2 (wt i * q)
        refine ⟨(nI (i + 1), s.2.1, u.1, u.2.1, u.2.2.1, u.2.2.2.1, u.2.2.2.2.1, u.2.2.2.2.2.1, u.2.2.2.2.2.2, wX 0, nI 0, w.1, w.2.1, w.2.2), RUN _ ?_, rfl, ?_, ?_⟩
        · rw [if_pos (by rw [c]; rfl)]
          refine b_run ST (b_run U1 ?_)
          unfold f_X1_spread_L112
          rw [h1, nI_1]
        · show s.2.1 = lN (A + (sm (fun j => if wiE h r tt (st j) e = nm + 1 then wt j * q else 0) i + (if wiE h r tt (st i) e = nm + 1 then wt i * q else 0)))
          rw [h2, if_neg (by omega)]; rfl
        · refine Tb_cong U2 (fun x => ?_)
          show B x + (sm (fun j => if wiE h r tt (st j) e = 0 ∧ nxE h r tt (st j) e = x then wt j * q else 0) i + (if wiE h r tt (st i) e = 0 ∧ nxE h r tt (st i) e = x then wt i * q else 0)) = B x + sm (fun j => if wiE h r tt (st j) e = 0 ∧ nxE h r tt (st j) e = x then wt j * q else 0) i + (if x = nxE h r tt (st i) e then wt i * q else 0)
          by_cases d : nxE h r tt (st i) e = x
          · rw [if_pos ⟨c, d⟩, if_pos d.symm, Nat.add_assoc]
          · rw [if_neg (fun z => d z.2), if_neg (fun z => d z.symm), Nat.add_assoc]
      · have c1 : ¬ wX (wiE h r tt (st i) e) = -1 := by rw [show (-1 : Int32) = m1 from rfl, q_wXm (by unfold wiE nxC; omega)]; exact c
        have M0 : ∀ x, B x + sm (fun j => if wiE h r tt (st j) e = 0 ∧ nxE h r tt (st j) e = x then wt j * q else 0) (i + 1) = B x + sm (fun j => if wiE h r tt (st j) e = 0 ∧ nxE h r tt (st j) e = x then wt j * q else 0) i := fun x => by
          show B x + (sm (fun j => if wiE h r tt (st j) e = 0 ∧ nxE h r tt (st j) e = x then wt j * q else 0) i + (if wiE h r tt (st i) e = 0 ∧ nxE h r tt (st i) e = x then wt i * q else 0)) = _
          rw [if_neg (fun z => c z.1)]; rfl
        by_cases d : wiE h r tt (st i) e = nm + 1
        · refine ⟨(nI (i + 1), s.2.1 + lN (wt i * q), s.2.2.1, s.2.2.2.1, s.2.2.2.2.1, s.2.2.2.2.2.1, s.2.2.2.2.2.2.1, s.2.2.2.2.2.2.2.1, s.2.2.2.2.2.2.2.2.1, wX 0, nI 0, w.1, w.2.1, w.2.2), RUN _ ?_, rfl, ?_, Tb_cong h3 M0⟩
          · rw [if_neg c1, if_pos (by rw [d]; rfl)]
            unfold f_X1_spread_L112
            rw [h1, nI_1]
          · show s.2.1 + lN (wt i * q) = lN (A + (sm (fun j => if wiE h r tt (st j) e = nm + 1 then wt j * q else 0) i + (if wiE h r tt (st i) e = nm + 1 then wt i * q else 0)))
            rw [h2, if_pos d, lN_add, Nat.add_assoc]
        · refine ⟨(nI (i + 1), s.2.1, s.2.2.1, s.2.2.2.1, s.2.2.2.2.1, s.2.2.2.2.2.1, s.2.2.2.2.2.2.1, s.2.2.2.2.2.2.2.1, s.2.2.2.2.2.2.2.2.1, wX 0, nI 0, w.1, w.2.1, w.2.2), RUN _ ?_, rfl, ?_, Tb_cong h3 M0⟩
          · rw [if_neg c1, if_neg (fun z => by rw [eq_comm, q_wX (by omega) (by unfold wiE nxC; omega)] at z; exact d z)]
            unfold f_X1_spread_L112
            rw [h1, nI_1]
          · show s.2.1 = lN (A + (sm (fun j => if wiE h r tt (st j) e = nm + 1 then wt j * q else 0) i + (if wiE h r tt (st i) e = nm + 1 then wt i * q else 0)))
            rw [h2, if_neg d]; rfl
    · rintro s ⟨h1, h2, h3⟩
      refine ⟨s.2, ?_, by rw [eG]; exact h2, Tb_cong h3 (fun x => by rw [eM])⟩
      unfold f_X1_spread_B3
      rw [h1, if_pos (by rw [q_le (by omega) (by omega)]; omega)]
  obtain ⟨u, U1, U2⟩ := L
  refine ⟨u, ?_, U2⟩
  unfold f_X1_spread
  exact b_run U1 rfl
