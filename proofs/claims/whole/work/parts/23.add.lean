theorem gl_X3_34 (mc ms : Nat) {R : Room} {s : State} {args : Array Value} {k : Cond} (ht : ∀ w ∈ k :: wsL_law, w.before args s = true) (hR : (kRa 3 mc ms).frames + 1 ≤ R.frames ∧ 8 + (2 + 11) + (kRa 3 mc ms).locals ≤ R.locals) : CallW R s args RX3 RX3 34 yX3_grow cX3_grow 2 none (Cond.code yX3_grow cX3_grow 2 none :: wsL_law) (kRa 3 mc ms) mc ms 0 := cwV 0 ht (gV mw_731 mw_728 mw_729 mw_730 mw_86) rfl rfl rfl (by decide +kernel) hR
def f_X3_add_L59 (vsize : Int32) (x1 : Int32) (x2 : Int64) (x4 : Int32) (nstates : Nat) (vstates : Nat → Int32) (nweights : Nat) (vweights : Nat → Int64) (nslots : Nat) (vslots : Nat → Int32) : Option (Int32 × Nat × (Nat → Int32) × Nat × (Nat → Int64) × Nat × (Nat → Int32)) := (if vsize < 0 ∨ nstates ≤ vsize.toNatClampNeg then none else (if vsize < 0 ∨ nweights ≤ vsize.toNatClampNeg then none else (if x4 < 0 ∨ nslots ≤ x4.toNatClampNeg then none else some ((vsize + (1 : Int32)), nstates, (upd vstates vsize.toNatClampNeg x1), nweights, (vp_updL vweights vsize.toNatClampNeg x2), nslots, (upd vslots x4.toNatClampNeg (vsize + (1 : Int32)))))))
def f_X3_add (N : Nat) (vsize : Int32) (nstates : Nat) (vstates : Nat → Int32) (nweights : Nat) (vweights : Nat → Int64) (nslots : Nat) (vslots : Nat → Int32) (x1 : Int32) (x2 : Int64) : Option (Int32 × Nat × (Nat → Int32) × Nat × (Nat → Int64) × Nat × (Nat → Int32)) := ((f_X3_slotOf N nstates vstates nslots vslots x1).bind (fun u4 => (if u4 < 0 ∨ nslots ≤ u4.toNatClampNeg then none else (if (vslots u4.toNatClampNeg) = 0 then (if vsize = (Int32.ofNat nstates) then ((f_X3_grow N vsize nstates vstates nweights vweights nslots).bind (fun u8 => ((f_X3_slotOf N u8.1 u8.2.1 u8.2.2.2.2.1 u8.2.2.2.2.2 x1).bind (fun u12 => (f_X3_add_L59 vsize x1 x2 u12 u8.1 u8.2.1 u8.2.2.1 u8.2.2.2.1 u8.2.2.2.2.1 u8.2.2.2.2.2))))) else (f_X3_add_L59 vsize x1 x2 u4 nstates vstates nweights vweights nslots vslots)) else (if ((vslots u4.toNatClampNeg) - (1 : Int32)) < 0 ∨ nweights ≤ ((vslots u4.toNatClampNeg) - (1 : Int32)).toNatClampNeg then none else some (vsize, nstates, vstates, nweights, (vp_updL vweights ((vslots u4.toNatClampNeg) - (1 : Int32)).toNatClampNeg ((vweights ((vslots u4.toNatClampNeg) - (1 : Int32)).toNatClampNeg) + x2)), nslots, vslots))))))
def w_X3_add (cI cJ cB : ClassId) (q_this q_states q_weights q_slots : Nat) (vsize : Int32) (nstates : Nat) (vstates : Nat → Int32) (nweights : Nat) (vweights : Nat → Int64) (nslots : Nat) (vslots : Nat → Int32) : va_W := [(q_this, .inr (3, [.int vsize, .ref q_states, .ref q_weights, .ref q_slots])), (q_states, .inl (cI, nstates, .inl vstates)), (q_weights, .inl (cJ, nweights, .inr (.inl vweights))), (q_slots, .inl (cI, nslots, .inl vslots))]

theorem lp_post {σ ρ : Type} {b : σ → Option (σ ⊕ ρ)} {P : ρ → Prop} (hb : ∀ s e, b s = some (.inr e) → P e) : ∀ (n : Nat) (s : σ) (r : ρ), lp b n s = some r → P r := by
  intro n
  induction n with
  | zero => intro s r h; exact (lp_zero h).elim
  | succ n ih =>
    intro s r h
    obtain ⟨o, h1, h2, h3⟩ := lp_succ h
    cases o with
    | inl s' => exact ih s' r (h2 s' rfl)
    | inr e => have := h3 e rfl; subst this; exact hb s _ h1
theorem len_X3_grow {N nstates nweights nslots : Nat} {vsize : Int32} {vstates : Nat → Int32} {vweights : Nat → Int64} {r : Nat × (Nat → Int32) × Nat × (Nat → Int64) × Nat × (Nat → Int32)} (h : f_X3_grow N vsize nstates vstates nweights vweights nslots = some r) : r.1 = 2 * nstates ∧ r.2.2.1 = 2 * nweights ∧ r.2.2.2.2.1 = 2 * nslots := by
  unfold f_X3_grow at h
  obtain ⟨_, h⟩ := og h
  obtain ⟨_, h⟩ := og h
  obtain ⟨_, h⟩ := og h
  obtain ⟨e, h1, h⟩ := ob h
  have h := osi h
  subst h
  refine lp_post (P := fun r => r.1 = 2 * nstates ∧ r.2.2.1 = 2 * nweights ∧ r.2.2.2.2.1 = 2 * nslots) ?_ _ _ _ h1
  intro s e h
  unfold f_X3_grow_B51 at h
  split at h
  · have h := osi h; cases h; exact ⟨rfl, rfl, rfl⟩
  · obtain ⟨_, h⟩ := og h
    obtain ⟨_, _, h⟩ := ob h
    obtain ⟨_, h⟩ := og h
    have h := osi h
    cases h
theorem len_X3_add_L59 {vsize x1 x4 : Int32} {x2 : Int64} {nstates nweights nslots : Nat} {vstates vslots : Nat → Int32} {vweights : Nat → Int64} {r : Int32 × Nat × (Nat → Int32) × Nat × (Nat → Int64) × Nat × (Nat → Int32)} (h : f_X3_add_L59 vsize x1 x2 x4 nstates vstates nweights vweights nslots vslots = some r) : r.2.1 = nstates ∧ r.2.2.2.1 = nweights ∧ r.2.2.2.2.2.1 = nslots := by
  unfold f_X3_add_L59 at h
  obtain ⟨_, h⟩ := og h
  obtain ⟨_, h⟩ := og h
  obtain ⟨_, h⟩ := og h
  have h := osi h
  subst h
  exact ⟨rfl, rfl, rfl⟩
theorem len_X3_add_T {N n1 n2 : Nat} {f1 f2 : Nat → Int32} {vsize x1 x9 : Int32} {x2 : Int64} {nstates nweights nslots : Nat} {vstates vslots : Nat → Int32} {vweights : Nat → Int64} {r : Int32 × Nat × (Nat → Int32) × Nat × (Nat → Int64) × Nat × (Nat → Int32)} (h : ((f_X3_slotOf N n1 f1 n2 f2 x9).bind (fun u => f_X3_add_L59 vsize x1 x2 u nstates vstates nweights vweights nslots vslots)) = some r) : r.2.1 = nstates ∧ r.2.2.2.1 = nweights ∧ r.2.2.2.2.2.1 = nslots := by
  obtain ⟨_, _, h⟩ := ob h
  exact len_X3_add_L59 h

set_option maxHeartbeats 4000000 in
set_option maxRecDepth 100000 in
theorem c_X3_add (l : Launch) (dC : Nat → ClassId) (dI : Nat → Nat → Nat) (cI cJ cB : ClassId) (q_this q_states q_weights q_slots : Nat) (vsize : Int32) (nstates : Nat) (vstates : Nat → Int32) (nweights : Nat) (vweights : Nat → Int64) (nslots : Nat) (vslots : Nat → Int32) (x1 : Int32) (x2 : Int64) (sz : Nat) {N : Nat} {r : Int32 × Nat × (Nat → Int32) × Nat × (Nat → Int64) × Nat × (Nat → Int32)} (hf : f_X3_add N vsize nstates vstates nweights vweights nslots vslots x1 x2 = some r) (mc ms : Nat) (hbig : 192 ≤ nstates + nweights + nslots) (hmc : (r.2.1 + r.2.2.2.1 + r.2.2.2.2.2.1) / 64 - (nstates + nweights + nslots) / 64 ≤ mc) (hms : 2 * (r.2.1 + r.2.2.2.1 + r.2.2.2.2.2.1) - 2 * (nstates + nweights + nslots) ≤ ms) : Met l yX3_add (Cond.code yX3_add cX3_add 5 none :: wsL_law) (kRa 4 mc ms) (va_Pc [.ref q_this, .int x1, .long x2] (pW (dC, dI) cI cJ cB (w_X3_add cI cJ cB q_this q_states q_weights q_slots vsize nstates vstates nweights vweights nslots vslots) sz)) (qWv (fun w => ∃ q_states q_weights q_slots : Nat, w = (w_X3_add cI cJ cB q_this q_states q_weights q_slots r.1 r.2.1 r.2.2.1 r.2.2.2.1 r.2.2.2.2.1 r.2.2.2.2.2.1 r.2.2.2.2.2.2)) (dC, dI) (va_A (w_X3_add cI cJ cB q_this q_states q_weights q_slots vsize nstates vstates nweights vweights nslots vslots) sz)) mc ms (va_A (w_X3_add cI cJ cB q_this q_states q_weights q_slots vsize nstates vstates nweights vweights nslots vslots) sz) := by
  refine k_wr (Qc := fun A => (qWv (fun w => ∃ q_states q_weights q_slots : Nat, w = (w_X3_add cI cJ cB q_this q_states q_weights q_slots r.1 r.2.1 r.2.2.1 r.2.2.2.1 r.2.2.2.2.1 r.2.2.2.2.2.1 r.2.2.2.2.2.2)) (dC, dI) A)) (cc := cX3_add) (n := 5) (ret := none) (by decide) (Nat.le_of_ble_eq_true rfl) ?_
  intro p e s m args below meth c ls A hx hb hr hml hts hown hlocks hnm hA hK hP hD hS hl
  have hD : va_D A [(q_this, .inr (3, [.int vsize, .ref q_states, .ref q_weights, .ref q_slots])), (q_states, .inl (cI, nstates, .inl vstates)), (q_weights, .inl (cJ, nweights, .inr (.inl vweights))), (q_slots, .inl (cI, nslots, .inl vslots))] := hD
  have hP : va_P (dC, dI) classes [(q_this, .inr (3, [.int vsize, .ref q_states, .ref q_weights, .ref q_slots])), (q_states, .inl (cI, nstates, .inl vstates)), (q_weights, .inl (cJ, nweights, .inr (.inl vweights))), (q_slots, .inl (cI, nslots, .inl vslots))] s.heap := hP
  have hG : ∀ w ∈ wsL_law, w.before args s = true := fun w h => hts w (List.mem_cons_of_mem _ h)
  have hown : s.vm.findClass RX3 = some m.cls := hown
  have hl : lv_has ls 5 [(0, .ref q_this), (1, .int x1), (2, .long x2)] := hl
  unfold f_X3_add at hf
  have hJ59 : ∀ (x4 : Int32) (nstates : Nat) (vstates : Nat → Int32) (nweights : Nat) (vweights : Nat → Int64) (nslots : Nat) (vslots : Nat → Int32) (q_states : Nat) (q_weights : Nat) (q_slots : Nat), f_X3_add_L59 vsize x1 x2 x4 nstates vstates nweights vweights nslots vslots = some r → ∀ (H : Heap) (locs : List Loc) (ls : Array Slot), va_P (dC, dI) classes [(q_this, .inr (3, [.int vsize, .ref q_states, .ref q_weights, .ref q_slots])), (q_states, .inl (cI, nstates, .inl vstates)), (q_weights, .inl (cJ, nweights, .inr (.inl vweights))), (q_slots, .inl (cI, nslots, .inl vslots))] H → va_D A [(q_this, .inr (3, [.int vsize, .ref q_states, .ref q_weights, .ref q_slots])), (q_states, .inl (cI, nstates, .inl vstates)), (q_weights, .inl (cJ, nweights, .inr (.inl vweights))), (q_slots, .inl (cI, nslots, .inl vslots))] → va_S A s.heap H locs → lv_has ls 5 [(0, .ref q_this), (1, .int x1), (2, .long x2), (4, .int x4)] → W p l e (kRa 4 mc ms) s m args below meth c H locs mc ms (MQ below (qWv (fun w => ∃ q_states q_weights q_slots : Nat, w = (w_X3_add cI cJ cB q_this q_states q_weights q_slots r.1 r.2.1 r.2.2.1 r.2.2.2.1 r.2.2.2.2.1 r.2.2.2.2.2.1 r.2.2.2.2.2.2)) (dC, dI) A) args s mc ms A) (F0 m 59 ls []) := by
    intro x4 nstates vstates nweights vweights nslots vslots q_states q_weights q_slots hf H locs ls hP hD hS hl
    unfold f_X3_add_L59 at hf
    refine lv_aload_n hx hb dX3_add_59 rfl (lv_at hl 0 rfl) ?_
    refine p_get (D := (dC, dI)) (ci := 3) (v := .ref q_states) (C := RX3) (T := TX3) (N := 4) 1 fX3_1 hx hb hG inlX3 hown hK.1 hP 0 rfl rfl (by decide) (hG _ mw_95) rfl dX3_add_60 ?_
    refine lv_aload_n hx hb dX3_add_63 rfl (lv_at hl 0 rfl) ?_
    refine p_get (D := (dC, dI)) (ci := 3) (v := .int vsize) (C := RX3) (T := TX3) (N := 4) 0 fX3_0 hx hb hG inlX3 hown hK.1 hP 0 rfl rfl (by decide) (hG _ mw_94) rfl dX3_add_64 ?_
    refine lv_iload_n hx hb dX3_add_67 rfl (lv_at hl 1 rfl) ?_
    obtain ⟨g1, hf⟩ := og hf
    refine va_iast hx hb hK.1 hP hD hS 1 0 rfl rfl g1 dX3_add_68 (fun H locs hP hD hS => ?_)
    have hP : va_P (dC, dI) classes [(q_this, .inr (3, [.int vsize, .ref q_states, .ref q_weights, .ref q_slots])), (q_states, .inl (cI, nstates, .inl (upd vstates vsize.toNatClampNeg x1))), (q_weights, .inl (cJ, nweights, .inr (.inl vweights))), (q_slots, .inl (cI, nslots, .inl vslots))] H := hP
    have hD : va_D A [(q_this, .inr (3, [.int vsize, .ref q_states, .ref q_weights, .ref q_slots])), (q_states, .inl (cI, nstates, .inl (upd vstates vsize.toNatClampNeg x1))), (q_weights, .inl (cJ, nweights, .inr (.inl vweights))), (q_slots, .inl (cI, nslots, .inl vslots))] := hD
    refine lv_aload_n hx hb dX3_add_69 rfl (lv_at hl 0 rfl) ?_
    refine p_get (D := (dC, dI)) (ci := 3) (v := .ref q_weights) (C := RX3) (T := TX3) (N := 4) 2 fX3_2 hx hb hG inlX3 hown hK.1 hP 0 rfl rfl (by decide) (hG _ mw_97) rfl dX3_add_70 ?_
    refine lv_aload_n hx hb dX3_add_73 rfl (lv_at hl 0 rfl) ?_
    refine p_get (D := (dC, dI)) (ci := 3) (v := .int vsize) (C := RX3) (T := TX3) (N := 4) 0 fX3_0 hx hb hG inlX3 hown hK.1 hP 0 rfl rfl (by decide) (hG _ mw_94) rfl dX3_add_74 ?_
    refine lv_lload_n hx hb dX3_add_77 rfl (lv_at hl 2 rfl) ?_
    obtain ⟨g2, hf⟩ := og hf
    refine va_last hx hb hK.1 hP hD hS 2 1 rfl rfl g2 dX3_add_78 (fun H locs hP hD hS => ?_)
    have hP : va_P (dC, dI) classes [(q_this, .inr (3, [.int vsize, .ref q_states, .ref q_weights, .ref q_slots])), (q_states, .inl (cI, nstates, .inl (upd vstates vsize.toNatClampNeg x1))), (q_weights, .inl (cJ, nweights, .inr (.inl (vp_updL vweights vsize.toNatClampNeg x2)))), (q_slots, .inl (cI, nslots, .inl vslots))] H := hP
    have hD : va_D A [(q_this, .inr (3, [.int vsize, .ref q_states, .ref q_weights, .ref q_slots])), (q_states, .inl (cI, nstates, .inl (upd vstates vsize.toNatClampNeg x1))), (q_weights, .inl (cJ, nweights, .inr (.inl (vp_updL vweights vsize.toNatClampNeg x2)))), (q_slots, .inl (cI, nslots, .inl vslots))] := hD
    refine lv_aload_n hx hb dX3_add_79 rfl (lv_at hl 0 rfl) ?_
    refine lv_dup hx hb dX3_add_80 rfl ?_
    refine p_get (D := (dC, dI)) (ci := 3) (v := .int vsize) (C := RX3) (T := TX3) (N := 4) 0 fX3_0 hx hb hG inlX3 hown hK.1 hP 0 rfl rfl (by decide) (hG _ mw_94) rfl dX3_add_81 ?_
    refine lv_iconst (v := (1 : Int32)) hx hb dX3_add_84 (by decide) ?_
    refine lv_iadd hx hb dX3_add_85 ?_
    refine p_put (D := (dC, dI)) (ci := 3) (v := .int (vsize + (1 : Int32))) (ty := .int) (C := RX3) (T := TX3) (N := 4) 0 fX3_0 hx hb hG inlX3 tyX3 tyX3_ok nmX3 hown hK.1 hP hD hS 0 rfl rfl (by decide) (hG _ mw_94) rfl (by decide +kernel) rfl rfl (Nat.le_of_ble_eq_true rfl) dX3_add_86 (fun H locs hP hD hS => ?_)
    have hP : va_P (dC, dI) classes [(q_this, .inr (3, [.int (vsize + (1 : Int32)), .ref q_states, .ref q_weights, .ref q_slots])), (q_states, .inl (cI, nstates, .inl (upd vstates vsize.toNatClampNeg x1))), (q_weights, .inl (cJ, nweights, .inr (.inl (vp_updL vweights vsize.toNatClampNeg x2)))), (q_slots, .inl (cI, nslots, .inl vslots))] H := hP
    have hD : va_D A [(q_this, .inr (3, [.int (vsize + (1 : Int32)), .ref q_states, .ref q_weights, .ref q_slots])), (q_states, .inl (cI, nstates, .inl (upd vstates vsize.toNatClampNeg x1))), (q_weights, .inl (cJ, nweights, .inr (.inl (vp_updL vweights vsize.toNatClampNeg x2)))), (q_slots, .inl (cI, nslots, .inl vslots))] := hD
    refine lv_aload_n hx hb dX3_add_89 rfl (lv_at hl 0 rfl) ?_
    refine p_get (D := (dC, dI)) (ci := 3) (v := .ref q_slots) (C := RX3) (T := TX3) (N := 4) 3 fX3_3 hx hb hG inlX3 hown hK.1 hP 0 rfl rfl (by decide) (hG _ mw_98) rfl dX3_add_90 ?_
    refine lv_iload hx hb dX3_add_93 (lv_at hl 3 rfl) ?_
    refine lv_aload_n hx hb dX3_add_95 rfl (lv_at hl 0 rfl) ?_
    refine p_get (D := (dC, dI)) (ci := 3) (v := .int (vsize + (1 : Int32))) (C := RX3) (T := TX3) (N := 4) 0 fX3_0 hx hb hG inlX3 hown hK.1 hP 0 rfl rfl (by decide) (hG _ mw_94) rfl dX3_add_96 ?_
    obtain ⟨g3, hf⟩ := og hf
    refine va_iast hx hb hK.1 hP hD hS 3 0 rfl rfl g3 dX3_add_99 (fun H locs hP hD hS => ?_)
    have hP : va_P (dC, dI) classes [(q_this, .inr (3, [.int (vsize + (1 : Int32)), .ref q_states, .ref q_weights, .ref q_slots])), (q_states, .inl (cI, nstates, .inl (upd vstates vsize.toNatClampNeg x1))), (q_weights, .inl (cJ, nweights, .inr (.inl (vp_updL vweights vsize.toNatClampNeg x2)))), (q_slots, .inl (cI, nslots, .inl (upd vslots x4.toNatClampNeg (vsize + (1 : Int32)))))] H := hP
    have hD : va_D A [(q_this, .inr (3, [.int (vsize + (1 : Int32)), .ref q_states, .ref q_weights, .ref q_slots])), (q_states, .inl (cI, nstates, .inl (upd vstates vsize.toNatClampNeg x1))), (q_weights, .inl (cJ, nweights, .inr (.inl (vp_updL vweights vsize.toNatClampNeg x2)))), (q_slots, .inl (cI, nslots, .inl (upd vslots x4.toNatClampNeg (vsize + (1 : Int32)))))] := hD
    have hf := osi hf
    exact x_vW hx hb hr hlocks hP hD hS ⟨q_states, q_weights, q_slots, (by have h9 := congrArg (fun z : Int32 × Nat × (Nat → Int32) × Nat × (Nat → Int64) × Nat × (Nat → Int32) => (w_X3_add cI cJ cB q_this q_states q_weights q_slots z.1 z.2.1 z.2.2.1 z.2.2.2.1 z.2.2.2.2.1 z.2.2.2.2.2.1 z.2.2.2.2.2.2)) hf; exact h9)⟩ dX3_add_100
  refine lv_aload_n hx hb dX3_add_0 rfl (lv_at hl 0 rfl) ?_
  refine lv_iload_n hx hb dX3_add_1 rfl (lv_at hl 1 rfl) ?_
  obtain ⟨u4, hu4, hf⟩ := ob hf
  refine k_Vi (As := [.int x1]) (rest := []) ⟨hx, hb, hml, hown, hts⟩ hK hP [0, 1, 3] rfl (c_X3_slotOf l dC dI cI cJ cB q_this q_states q_weights q_slots vsize nstates vstates nslots vslots x1 hu4) (gl_X3_30 hts ⟨(Nat.le_of_ble_eq_true rfl), (Nat.le_of_ble_eq_true rfl)⟩) 0 3 rfl rfl rfl rfl hl.1 rfl (Nat.le_of_ble_eq_true rfl) dX3_add_2 ⟨Nat.zero_le _, Nat.zero_le _⟩ ?_
  refine lv_istore (lv' := [(4, .int u4), (0, .ref q_this), (1, .int x1), (2, .long x2)]) hx hb dX3_add_5 hl (by decide) rfl (fun ls hl => ?_)
  refine lv_aload_n hx hb dX3_add_7 rfl (lv_at hl 1 rfl) ?_
  refine p_get (D := (dC, dI)) (ci := 3) (v := .ref q_slots) (C := RX3) (T := TX3) (N := 4) 3 fX3_3 hx hb hG inlX3 hown hK.1 hP 0 rfl rfl (by decide) (hG _ mw_98) rfl dX3_add_8 ?_
  refine lv_iload hx hb dX3_add_11 (lv_at hl 0 rfl) ?_
  obtain ⟨g5, hf⟩ := og hf
  refine va_iald hx hb hK.1 hP 3 0 rfl rfl g5 dX3_add_13 ?_
  refine lv_if_eq (tgt := 36) hx hb dX3_add_14 (by decide) (fun c6 => ?_) (fun c6 => ?_)
  · replace hf := ot hf c6
    refine lv_aload_n hx hb dX3_add_36 rfl (lv_at hl 1 rfl) ?_
    refine p_get (D := (dC, dI)) (ci := 3) (v := .int vsize) (C := RX3) (T := TX3) (N := 4) 0 fX3_0 hx hb hG inlX3 hown hK.1 hP 0 rfl rfl (by decide) (hG _ mw_94) rfl dX3_add_37 ?_
    refine lv_aload_n hx hb dX3_add_40 rfl (lv_at hl 1 rfl) ?_
    refine p_get (D := (dC, dI)) (ci := 3) (v := .ref q_states) (C := RX3) (T := TX3) (N := 4) 1 fX3_1 hx hb hG inlX3 hown hK.1 hP 0 rfl rfl (by decide) (hG _ mw_95) rfl dX3_add_41 ?_
    refine va_alen (v := (Int32.ofNat nstates)) hx hb hK.1 hP 1 0 rfl rfl rfl dX3_add_44 ?_
    refine lv_icmp_ne (tgt := 59) hx hb dX3_add_45 (by decide) (fun c7 => ?_) (fun c7 => ?_)
    · replace hf := oe hf c7
      refine W.widen (k := mc) (n := ms) (Nat.zero_le _) (Nat.zero_le _) ?_
      exact hJ59 u4 nstates vstates nweights vweights nslots vslots q_states q_weights q_slots hf _ _ ls hP hD hS (lv_sub hl [1, 2, 3, 0] rfl)
    · replace hf := ot hf c7
      refine lv_aload_n hx hb dX3_add_48 rfl (lv_at hl 1 rfl) ?_
      obtain ⟨u8, hu8, hf⟩ := ob hf
      have hg1 := len_X3_grow hu8
      have hg2 := len_X3_add_T hf
      refine k_VWv (As := []) (rest := []) (wr := []) ⟨hx, hb, hml, hown, hts⟩ hK hP hD hS hA [0, 1, 2, 3] [] rfl rfl (by decide) (by decide) (by decide) (c_X3_grow l dC dI cI cJ cB q_this q_states q_weights q_slots vsize nstates vstates nweights vweights nslots vslots _ 3 (2 * nstates + 2 * nweights + 2 * nslots) (Nat.le_refl _) (Nat.le_refl _) hu8) (gl_X3_34 3 (2 * nstates + 2 * nweights + 2 * nslots) hts ⟨(Nat.le_of_ble_eq_true rfl), (Nat.le_of_ble_eq_true rfl)⟩) 0 3 rfl rfl rfl rfl hl.1 rfl (Nat.le_of_ble_eq_true rfl) dX3_add_49 ⟨by show _ ≤ mc; omega, by show _ ≤ ms; omega⟩ (fun w H locs hE hP hD hS => ?_)
      obtain ⟨b9, b10, b11, rfl⟩ := hE
      have hP : va_P (dC, dI) classes [(q_this, .inr (3, [.int vsize, .ref b9, .ref b10, .ref b11])), (b9, .inl (cI, u8.1, .inl u8.2.1)), (b10, .inl (cJ, u8.2.2.1, .inr (.inl u8.2.2.2.1))), (b11, .inl (cI, u8.2.2.2.2.1, .inl u8.2.2.2.2.2))] H := hP
      have hD : va_D A [(q_this, .inr (3, [.int vsize, .ref b9, .ref b10, .ref b11])), (b9, .inl (cI, u8.1, .inl u8.2.1)), (b10, .inl (cJ, u8.2.2.1, .inr (.inl u8.2.2.2.1))), (b11, .inl (cI, u8.2.2.2.2.1, .inl u8.2.2.2.2.2))] := hD
      refine lv_aload_n hx hb dX3_add_52 rfl (lv_at hl 1 rfl) ?_
      refine lv_iload_n hx hb dX3_add_53 rfl (lv_at hl 2 rfl) ?_
      obtain ⟨u12, hu12, hf⟩ := ob hf
      refine k_Vi (As := [.int x1]) (rest := []) ⟨hx, hb, hml, hown, hts⟩ hK hP [0, 1, 3] rfl (c_X3_slotOf l dC dI cI cJ cB q_this b9 b10 b11 vsize u8.1 u8.2.1 u8.2.2.2.2.1 u8.2.2.2.2.2 x1 hu12) (gl_X3_30 hts ⟨(Nat.le_of_ble_eq_true rfl), (Nat.le_of_ble_eq_true rfl)⟩) 0 3 rfl rfl rfl rfl hl.1 rfl (Nat.le_of_ble_eq_true rfl) dX3_add_54 ⟨by show _ ≤ mc; omega, by show _ ≤ ms; omega⟩ ?_
      refine lv_istore (lv' := [(4, .int u12), (0, .ref q_this), (1, .int x1), (2, .long x2)]) hx hb dX3_add_57 hl (by decide) rfl (fun ls hl => ?_)
      refine W.widen (k := mc) (n := ms) (by omega) (by omega) ?_
      exact hJ59 u12 u8.1 u8.2.1 u8.2.2.1 u8.2.2.2.1 u8.2.2.2.2.1 u8.2.2.2.2.2 b9 b10 b11 hf _ _ ls hP hD hS (lv_sub hl [1, 2, 3, 0] rfl)
  · replace hf := oe hf c6
    refine lv_aload_n hx hb dX3_add_17 rfl (lv_at hl 1 rfl) ?_
    refine p_get (D := (dC, dI)) (ci := 3) (v := .ref q_weights) (C := RX3) (T := TX3) (N := 4) 2 fX3_2 hx hb hG inlX3 hown hK.1 hP 0 rfl rfl (by decide) (hG _ mw_97) rfl dX3_add_18 ?_
    refine lv_aload_n hx hb dX3_add_21 rfl (lv_at hl 1 rfl) ?_
    refine p_get (D := (dC, dI)) (ci := 3) (v := .ref q_slots) (C := RX3) (T := TX3) (N := 4) 3 fX3_3 hx hb hG inlX3 hown hK.1 hP 0 rfl rfl (by decide) (hG _ mw_98) rfl dX3_add_22 ?_
    refine lv_iload hx hb dX3_add_25 (lv_at hl 0 rfl) ?_
    refine va_iald hx hb hK.1 hP 3 0 rfl rfl g5 dX3_add_27 ?_
    refine lv_iconst (v := (1 : Int32)) hx hb dX3_add_28 (by decide) ?_
    refine lv_isub hx hb dX3_add_29 ?_
    refine lv_dup2_11 hx hb dX3_add_30 rfl rfl ?_
    obtain ⟨g13, hf⟩ := og hf
    refine va_lald hx hb hK.1 hP 2 1 rfl rfl g13 dX3_add_31 ?_
    refine lv_lload_n hx hb dX3_add_32 rfl (lv_at hl 3 rfl) ?_
    refine lv_ladd hx hb dX3_add_33 ?_
    refine va_last hx hb hK.1 hP hD hS 2 1 rfl rfl g13 dX3_add_34 (fun H locs hP hD hS => ?_)
    have hP : va_P (dC, dI) classes [(q_this, .inr (3, [.int vsize, .ref q_states, .ref q_weights, .ref q_slots])), (q_states, .inl (cI, nstates, .inl vstates)), (q_weights, .inl (cJ, nweights, .inr (.inl (vp_updL vweights ((vslots u4.toNatClampNeg) - (1 : Int32)).toNatClampNeg ((vweights ((vslots u4.toNatClampNeg) - (1 : Int32)).toNatClampNeg) + x2))))), (q_slots, .inl (cI, nslots, .inl vslots))] H := hP
    have hD : va_D A [(q_this, .inr (3, [.int vsize, .ref q_states, .ref q_weights, .ref q_slots])), (q_states, .inl (cI, nstates, .inl vstates)), (q_weights, .inl (cJ, nweights, .inr (.inl (vp_updL vweights ((vslots u4.toNatClampNeg) - (1 : Int32)).toNatClampNeg ((vweights ((vslots u4.toNatClampNeg) - (1 : Int32)).toNatClampNeg) + x2))))), (q_slots, .inl (cI, nslots, .inl vslots))] := hD
    have hf := osi hf
    refine W.widen (k := mc) (n := ms) (Nat.zero_le _) (Nat.zero_le _) ?_
    exact x_vW hx hb hr hlocks hP hD hS ⟨q_states, q_weights, q_slots, (by have h9 := congrArg (fun z : Int32 × Nat × (Nat → Int32) × Nat × (Nat → Int64) × Nat × (Nat → Int32) => (w_X3_add cI cJ cB q_this q_states q_weights q_slots z.1 z.2.1 z.2.2.1 z.2.2.2.1 z.2.2.2.2.1 z.2.2.2.2.2.1 z.2.2.2.2.2.2)) hf; exact h9)⟩ dX3_add_35
