theorem gl_X2_37 {R : Room} {s : State} {args : Array Value} {k : Cond} (ht : ∀ w ∈ k :: wsL_law, w.before args s = true) (hR : (kR 0).frames + 1 ≤ R.frames ∧ 8 + (2 + 11) + (kR 0).locals ≤ R.locals) : CallB R s args RX2 37 yX2_lowestBits cX2_lowestBits 2 (some .int) (Cond.code yX2_lowestBits cX2_lowestBits 2 (some .int) :: wsL_law) (kR 0) 0 0 2 ∧ (Cond.static yX2_lowestBits).before args s = true := va_cwS 2 ht (gS mw_1000 mw_998 mw_999 mw_36) rfl rfl rfl (by decide +kernel) hR
theorem gl_X2_27 {R : Room} {s : State} {args : Array Value} {k : Cond} (ht : ∀ w ∈ k :: wsL_law, w.before args s = true) (hR : (kR 0).frames + 1 ≤ R.frames ∧ 8 + (1 + 11) + (kR 0).locals ≤ R.locals) : CallB R s args RX2 27 yX2_isSheet cX2_isSheet 1 (some .boolean) (Cond.code yX2_isSheet cX2_isSheet 1 (some .boolean) :: wsL_law) (kR 0) 0 0 1 ∧ (Cond.static yX2_isSheet).before args s = true := va_cwS 1 ht (gS mw_415 mw_413 mw_414 mw_36) rfl rfl rfl (by decide +kernel) hR
theorem gl_X2_31 {R : Room} {s : State} {args : Array Value} {k : Cond} (ht : ∀ w ∈ k :: wsL_law, w.before args s = true) (hR : (kR 0).frames + 1 ≤ R.frames ∧ 8 + (1 + 11) + (kR 0).locals ≤ R.locals) : CallB R s args RX2 31 yX2_isLane cX2_isLane 1 (some .boolean) (Cond.code yX2_isLane cX2_isLane 1 (some .boolean) :: wsL_law) (kR 0) 0 0 1 ∧ (Cond.static yX2_isLane).before args s = true := va_cwS 1 ht (gS mw_418 mw_416 mw_417 mw_36) rfl rfl rfl (by decide +kernel) hR
theorem gl_X2_34 {R : Room} {s : State} {args : Array Value} {k : Cond} (ht : ∀ w ∈ k :: wsL_law, w.before args s = true) (hR : (kR 0).frames + 1 ≤ R.frames ∧ 8 + (2 + 11) + (kR 0).locals ≤ R.locals) : CallW R s args RX2 RX2 34 yX2_isMissing cX2_isMissing 2 (some .boolean) (Cond.code yX2_isMissing cX2_isMissing 2 (some .boolean) :: wsL_law) (kR 0) 0 0 1 := cwV 1 ht (gV mw_422 mw_419 mw_420 mw_421 mw_36) rfl rfl rfl (by decide +kernel) hR
def f_X2_at (vitems : Nat → Int32) (x1 : Int32) (x2 : Int32) : Option (Int32) := (if ((x1 * (24 : Int32)) + x2) < 0 ∨ 96 ≤ ((x1 * (24 : Int32)) + x2).toNatClampNeg then none else some (vitems ((x1 * (24 : Int32)) + x2).toNatClampNeg))
def w_X2_at (cI cJ cB : ClassId) (q_this q_lanes q_sizes q_items : Nat) (vitems : Nat → Int32) : va_W := [(q_this, .inr (2, [.ref q_lanes, .ref q_sizes, .ref q_items])), (q_items, .inl (cI, 96, .inl vitems))]
set_option maxHeartbeats 4000000 in
set_option maxRecDepth 100000 in
theorem c_X2_at (l : Launch) (dC : Nat → ClassId) (dI : Nat → Nat → Nat) (cI cJ cB : ClassId) (q_this q_lanes q_sizes q_items : Nat) (vitems : Nat → Int32) (x1 : Int32) (x2 : Int32) {r : Int32} (hf : f_X2_at vitems x1 x2 = some r) : Met l yX2_at (Cond.code yX2_at cX2_at 3 (some .int) :: wsL_law) (kR 0) (va_Pc [.ref q_this, .int x1, .int x2] (pR (dC, dI) cI cJ cB (w_X2_at cI cJ cB q_this q_lanes q_sizes q_items vitems))) (qRi r) 0 0 (fun _ => False) := by
  refine k_ro (cc := cX2_at) (n := 3) (ret := (some .int)) (by decide) (Nat.le_of_ble_eq_true rfl) ?_
  intro p e s m args below meth c ls hx hb hr hml hts hown hlocks hK hP hl
  have hP : va_P (dC, dI) classes [(q_this, .inr (2, [.ref q_lanes, .ref q_sizes, .ref q_items])), (q_items, .inl (cI, 96, .inl vitems))] s.heap := hP
  have hG : ∀ w ∈ wsL_law, w.before args s = true := fun w h => hts w (List.mem_cons_of_mem _ h)
  have hown : s.vm.findClass RX2 = some m.cls := hown
  have hl : lv_has ls 3 [(0, .ref q_this), (1, .int x1), (2, .int x2)] := hl
  unfold f_X2_at at hf
  refine lv_aload_n hx hb dX2_at_0 rfl (lv_at hl 0 rfl) ?_
  refine p_get (D := (dC, dI)) (ci := 2) (v := .ref q_items) (C := RX2) (T := TX2) (N := 3) 2 fX2_2 hx hb hG inlX2 hown hK.1 hP 0 rfl rfl (by decide) (hG _ mw_106) rfl dX2_at_1 ?_
  refine lv_iload_n hx hb dX2_at_4 rfl (lv_at hl 1 rfl) ?_
  refine lv_bipush (v := (24 : Int32)) hx hb dX2_at_5 (by decide) ?_
  refine lv_imul hx hb dX2_at_7 ?_
  refine lv_iload_n hx hb dX2_at_8 rfl (lv_at hl 2 rfl) ?_
  refine lv_iadd hx hb dX2_at_9 ?_
  obtain ⟨g1, hf⟩ := og hf
  refine va_iald hx hb hK.1 hP 1 0 rfl rfl g1 dX2_at_10 ?_
  have hf := osi hf
  exact x_iR hx hb hr hlocks hf dX2_at_11
def f_X2_isLane (x0 : Int32) : Option (Int32) := (if x0 < 0 then some (0 : Int32) else (if (2 : Int32) < x0 then some (0 : Int32) else some (1 : Int32)))
def w_X2_isLane (cI cJ cB : ClassId) : va_W := []
set_option maxHeartbeats 4000000 in
set_option maxRecDepth 100000 in
theorem c_X2_isLane (l : Launch) (dC : Nat → ClassId) (dI : Nat → Nat → Nat) (cI cJ cB : ClassId) (x0 : Int32) {r : Int32} (hf : f_X2_isLane x0 = some r) : Met l yX2_isLane (Cond.code yX2_isLane cX2_isLane 1 (some .boolean) :: wsL_law) (kR 0) (va_Pc [.int x0] (pR (dC, dI) cI cJ cB (w_X2_isLane cI cJ cB ))) (qRi r) 0 0 (fun _ => False) := by
  refine k_ro (cc := cX2_isLane) (n := 1) (ret := (some .boolean)) (by decide) (Nat.le_of_ble_eq_true rfl) ?_
  intro p e s m args below meth c ls hx hb hr hml hts hown hlocks hK hP hl
  have hP : va_P (dC, dI) classes [] s.heap := hP
  have hG : ∀ w ∈ wsL_law, w.before args s = true := fun w h => hts w (List.mem_cons_of_mem _ h)
  have hown : s.vm.findClass RX2 = some m.cls := hown
  have hl : lv_has ls 1 [(0, .int x0)] := hl
  unfold f_X2_isLane at hf
  refine lv_iload_n hx hb dX2_isLane_0 rfl (lv_at hl 0 rfl) ?_
  refine lv_if_lt (tgt := 13) hx hb dX2_isLane_1 (by decide) (fun c1 => ?_) (fun c1 => ?_)
  · replace hf := ot hf c1
    refine lv_iconst (v := (0 : Int32)) hx hb dX2_isLane_13 (by decide) ?_
    have hf := osi hf
    exact x_zR hx hb hr hlocks rfl hf dX2_isLane_14
  · replace hf := oe hf c1
    refine lv_iload_n hx hb dX2_isLane_4 rfl (lv_at hl 0 rfl) ?_
    refine lv_iconst (v := (2 : Int32)) hx hb dX2_isLane_5 (by decide) ?_
    refine lv_icmp_gt (tgt := 13) hx hb dX2_isLane_6 (by decide) (fun c2 => ?_) (fun c2 => ?_)
    · replace hf := ot hf c2
      refine lv_iconst (v := (0 : Int32)) hx hb dX2_isLane_13 (by decide) ?_
      have hf := osi hf
      exact x_zR hx hb hr hlocks rfl hf dX2_isLane_14
    · replace hf := oe hf c2
      refine lv_iconst (v := (1 : Int32)) hx hb dX2_isLane_9 (by decide) ?_
      refine lv_goto (tgt := 14) hx hb dX2_isLane_10 (by decide) ?_
      have hf := osi hf
      exact x_zR hx hb hr hlocks rfl hf dX2_isLane_14
def f_X2_isMissing (vlanes : Nat → Int32) (x1 : Int32) : Option (Int32) := (if x1 < 0 ∨ 4 ≤ x1.toNatClampNeg then none else (if (vlanes x1.toNatClampNeg) = (-1 : Int32) then some (1 : Int32) else some (0 : Int32)))
def w_X2_isMissing (cI cJ cB : ClassId) (q_this q_lanes q_sizes q_items : Nat) (vlanes : Nat → Int32) : va_W := [(q_this, .inr (2, [.ref q_lanes, .ref q_sizes, .ref q_items])), (q_lanes, .inl (cI, 4, .inl vlanes))]
set_option maxHeartbeats 4000000 in
set_option maxRecDepth 100000 in
theorem c_X2_isMissing (l : Launch) (dC : Nat → ClassId) (dI : Nat → Nat → Nat) (cI cJ cB : ClassId) (q_this q_lanes q_sizes q_items : Nat) (vlanes : Nat → Int32) (x1 : Int32) {r : Int32} (hf : f_X2_isMissing vlanes x1 = some r) : Met l yX2_isMissing (Cond.code yX2_isMissing cX2_isMissing 2 (some .boolean) :: wsL_law) (kR 0) (va_Pc [.ref q_this, .int x1] (pR (dC, dI) cI cJ cB (w_X2_isMissing cI cJ cB q_this q_lanes q_sizes q_items vlanes))) (qRi r) 0 0 (fun _ => False) := by
  refine k_ro (cc := cX2_isMissing) (n := 2) (ret := (some .boolean)) (by decide) (Nat.le_of_ble_eq_true rfl) ?_
  intro p e s m args below meth c ls hx hb hr hml hts hown hlocks hK hP hl
  have hP : va_P (dC, dI) classes [(q_this, .inr (2, [.ref q_lanes, .ref q_sizes, .ref q_items])), (q_lanes, .inl (cI, 4, .inl vlanes))] s.heap := hP
  have hG : ∀ w ∈ wsL_law, w.before args s = true := fun w h => hts w (List.mem_cons_of_mem _ h)
  have hown : s.vm.findClass RX2 = some m.cls := hown
  have hl : lv_has ls 2 [(0, .ref q_this), (1, .int x1)] := hl
  unfold f_X2_isMissing at hf
  refine lv_aload_n hx hb dX2_isMissing_0 rfl (lv_at hl 0 rfl) ?_
  refine p_get (D := (dC, dI)) (ci := 2) (v := .ref q_lanes) (C := RX2) (T := TX2) (N := 3) 0 fX2_0 hx hb hG inlX2 hown hK.1 hP 0 rfl rfl (by decide) (hG _ mw_104) rfl dX2_isMissing_1 ?_
  refine lv_iload_n hx hb dX2_isMissing_4 rfl (lv_at hl 1 rfl) ?_
  obtain ⟨g1, hf⟩ := og hf
  refine va_iald hx hb hK.1 hP 1 0 rfl rfl g1 dX2_isMissing_5 ?_
  refine lv_iconst (v := (-1 : Int32)) hx hb dX2_isMissing_6 (by decide) ?_
  refine lv_icmp_ne (tgt := 14) hx hb dX2_isMissing_7 (by decide) (fun c2 => ?_) (fun c2 => ?_)
  · replace hf := oe hf c2
    refine lv_iconst (v := (0 : Int32)) hx hb dX2_isMissing_14 (by decide) ?_
    have hf := osi hf
    exact x_zR hx hb hr hlocks rfl hf dX2_isMissing_15
  · replace hf := ot hf c2
    refine lv_iconst (v := (1 : Int32)) hx hb dX2_isMissing_10 (by decide) ?_
    refine lv_goto (tgt := 15) hx hb dX2_isMissing_11 (by decide) ?_
    have hf := osi hf
    exact x_zR hx hb hr hlocks rfl hf dX2_isMissing_15
def f_X2_isSheet (x0 : Int32) : Option (Int32) := (if x0 < 0 then some (0 : Int32) else (if (4 : Int32) ≤ x0 then some (0 : Int32) else some (1 : Int32)))
def w_X2_isSheet (cI cJ cB : ClassId) : va_W := []
set_option maxHeartbeats 4000000 in
set_option maxRecDepth 100000 in
theorem c_X2_isSheet (l : Launch) (dC : Nat → ClassId) (dI : Nat → Nat → Nat) (cI cJ cB : ClassId) (x0 : Int32) {r : Int32} (hf : f_X2_isSheet x0 = some r) : Met l yX2_isSheet (Cond.code yX2_isSheet cX2_isSheet 1 (some .boolean) :: wsL_law) (kR 0) (va_Pc [.int x0] (pR (dC, dI) cI cJ cB (w_X2_isSheet cI cJ cB ))) (qRi r) 0 0 (fun _ => False) := by
  refine k_ro (cc := cX2_isSheet) (n := 1) (ret := (some .boolean)) (by decide) (Nat.le_of_ble_eq_true rfl) ?_
  intro p e s m args below meth c ls hx hb hr hml hts hown hlocks hK hP hl
  have hP : va_P (dC, dI) classes [] s.heap := hP
  have hG : ∀ w ∈ wsL_law, w.before args s = true := fun w h => hts w (List.mem_cons_of_mem _ h)
  have hown : s.vm.findClass RX2 = some m.cls := hown
  have hl : lv_has ls 1 [(0, .int x0)] := hl
  unfold f_X2_isSheet at hf
  refine lv_iload_n hx hb dX2_isSheet_0 rfl (lv_at hl 0 rfl) ?_
  refine lv_if_lt (tgt := 13) hx hb dX2_isSheet_1 (by decide) (fun c1 => ?_) (fun c1 => ?_)
  · replace hf := ot hf c1
    refine lv_iconst (v := (0 : Int32)) hx hb dX2_isSheet_13 (by decide) ?_
    have hf := osi hf
    exact x_zR hx hb hr hlocks rfl hf dX2_isSheet_14
  · replace hf := oe hf c1
    refine lv_iload_n hx hb dX2_isSheet_4 rfl (lv_at hl 0 rfl) ?_
    refine lv_iconst (v := (4 : Int32)) hx hb dX2_isSheet_5 (by decide) ?_
    refine lv_icmp_ge (tgt := 13) hx hb dX2_isSheet_6 (by decide) (fun c2 => ?_) (fun c2 => ?_)
    · replace hf := ot hf c2
      refine lv_iconst (v := (0 : Int32)) hx hb dX2_isSheet_13 (by decide) ?_
      have hf := osi hf
      exact x_zR hx hb hr hlocks rfl hf dX2_isSheet_14
    · replace hf := oe hf c2
      refine lv_iconst (v := (1 : Int32)) hx hb dX2_isSheet_9 (by decide) ?_
      refine lv_goto (tgt := 14) hx hb dX2_isSheet_10 (by decide) ?_
      have hf := osi hf
      exact x_zR hx hb hr hlocks rfl hf dX2_isSheet_14
def f_X2_lay_B17 (vlanes : Nat → Int32) (vsizes : Nat → Int32) (x1 : Int32) (x4 : Int32) (vitems : Nat → Int32) : Option ((Int32 × (Nat → Int32)) ⊕ ((Nat → Int32) × (Nat → Int32) × (Nat → Int32))) := (if (24 : Int32) ≤ x4 then some (.inr (vlanes, vsizes, vitems)) else (if ((x1 * (24 : Int32)) + x4) < 0 ∨ 96 ≤ ((x1 * (24 : Int32)) + x4).toNatClampNeg then none else some (.inl ((x4 + (1 : Int32)), (upd vitems ((x1 * (24 : Int32)) + x4).toNatClampNeg (0 : Int32))))))
def f_X2_lay (N : Nat) (vlanes : Nat → Int32) (vsizes : Nat → Int32) (vitems : Nat → Int32) (x1 : Int32) (x2 : Int32) (x3 : Int32) : Option ((Nat → Int32) × (Nat → Int32) × (Nat → Int32)) := (if x1 < 0 ∨ 4 ≤ x1.toNatClampNeg then none else ((lp (fun s => f_X2_lay_B17 (upd vlanes x1.toNatClampNeg x2) (upd vsizes x1.toNatClampNeg x3) x1 s.1 s.2) N ((0 : Int32), vitems)).bind (fun e4 => some e4)))
def w_X2_lay (cI cJ cB : ClassId) (q_this q_lanes q_sizes q_items : Nat) (vlanes : Nat → Int32) (vsizes : Nat → Int32) (vitems : Nat → Int32) : va_W := [(q_this, .inr (2, [.ref q_lanes, .ref q_sizes, .ref q_items])), (q_lanes, .inl (cI, 4, .inl vlanes)), (q_sizes, .inl (cI, 4, .inl vsizes)), (q_items, .inl (cI, 96, .inl vitems))]
set_option maxHeartbeats 4000000 in
set_option maxRecDepth 100000 in
theorem c_X2_lay (l : Launch) (dC : Nat → ClassId) (dI : Nat → Nat → Nat) (cI cJ cB : ClassId) (q_this q_lanes q_sizes q_items : Nat) (vlanes : Nat → Int32) (vsizes : Nat → Int32) (vitems : Nat → Int32) (x1 : Int32) (x2 : Int32) (x3 : Int32) (sz : Nat) {N : Nat} {r : (Nat → Int32) × (Nat → Int32) × (Nat → Int32)} (hf : f_X2_lay N vlanes vsizes vitems x1 x2 x3 = some r) : Met l yX2_lay (Cond.code yX2_lay cX2_lay 5 none :: wsL_law) (kR 0) (va_Pc [.ref q_this, .int x1, .int x2, .int x3] (pW (dC, dI) cI cJ cB (w_X2_lay cI cJ cB q_this q_lanes q_sizes q_items vlanes vsizes vitems) sz)) (qWv (fun w => w = (w_X2_lay cI cJ cB q_this q_lanes q_sizes q_items r.1 r.2.1 r.2.2)) (dC, dI) (va_A (w_X2_lay cI cJ cB q_this q_lanes q_sizes q_items vlanes vsizes vitems) sz)) 0 0 (va_A (w_X2_lay cI cJ cB q_this q_lanes q_sizes q_items vlanes vsizes vitems) sz) := by
  refine k_wr (Qc := fun A => (qWv (fun w => w = (w_X2_lay cI cJ cB q_this q_lanes q_sizes q_items r.1 r.2.1 r.2.2)) (dC, dI) A)) (cc := cX2_lay) (n := 5) (ret := none) (by decide) (Nat.le_of_ble_eq_true rfl) ?_
  intro p e s m args below meth c ls A hx hb hr hml hts hown hlocks hnm hA hK hP hD hS hl
  have hD : va_D A [(q_this, .inr (2, [.ref q_lanes, .ref q_sizes, .ref q_items])), (q_lanes, .inl (cI, 4, .inl vlanes)), (q_sizes, .inl (cI, 4, .inl vsizes)), (q_items, .inl (cI, 96, .inl vitems))] := hD
  have hP : va_P (dC, dI) classes [(q_this, .inr (2, [.ref q_lanes, .ref q_sizes, .ref q_items])), (q_lanes, .inl (cI, 4, .inl vlanes)), (q_sizes, .inl (cI, 4, .inl vsizes)), (q_items, .inl (cI, 96, .inl vitems))] s.heap := hP
  have hG : ∀ w ∈ wsL_law, w.before args s = true := fun w h => hts w (List.mem_cons_of_mem _ h)
  have hown : s.vm.findClass RX2 = some m.cls := hown
  have hl : lv_has ls 5 [(0, .ref q_this), (1, .int x1), (2, .int x2), (3, .int x3)] := hl
  unfold f_X2_lay at hf
  have hL17 : ∀ (n : Nat) (vlanes : Nat → Int32) (vsizes : Nat → Int32) (x4 : Int32) (vitems : Nat → Int32) (res17 : (Nat → Int32) × (Nat → Int32) × (Nat → Int32)), lp (fun s => f_X2_lay_B17 vlanes vsizes x1 s.1 s.2) n (x4, vitems) = some res17 → ∀ (H : Heap) (locs : List Loc) (ls : Array Slot), va_P (dC, dI) classes [(q_this, .inr (2, [.ref q_lanes, .ref q_sizes, .ref q_items])), (q_lanes, .inl (cI, 4, .inl vlanes)), (q_sizes, .inl (cI, 4, .inl vsizes)), (q_items, .inl (cI, 96, .inl vitems))] H → va_D A [(q_this, .inr (2, [.ref q_lanes, .ref q_sizes, .ref q_items])), (q_lanes, .inl (cI, 4, .inl vlanes)), (q_sizes, .inl (cI, 4, .inl vsizes)), (q_items, .inl (cI, 96, .inl vitems))] → va_S A s.heap H locs → lv_has ls 5 [(0, .ref q_this), (1, .int x1), (4, .int x4)] → (∀ q9 : (Nat → Int32) × (Nat → Int32) × (Nat → Int32), res17 = q9 → q9 = r) → W p l e (kR 0) s m args below meth c H locs 0 0 (MQ below (qWv (fun w => w = (w_X2_lay cI cJ cB q_this q_lanes q_sizes q_items r.1 r.2.1 r.2.2)) (dC, dI) A) args s 0 0 A) (F0 m 17 ls []) := by
    intro n
    induction n with
    | zero => intro vlanes vsizes x4 vitems res17 h9; exact (lp_zero h9).elim
    | succ n ih =>
      intro vlanes vsizes x4 vitems res17 h9 H locs ls hP hD hS hl KR
      obtain ⟨o17, hf, hnext, hexit⟩ := lp_succ h9
      have hf : f_X2_lay_B17 vlanes vsizes x1 x4 vitems = some o17 := hf
      unfold f_X2_lay_B17 at hf
      refine lv_iload hx hb dX2_lay_17 (lv_at hl 2 rfl) ?_
      refine lv_bipush (v := (24 : Int32)) hx hb dX2_lay_19 (by decide) ?_
      refine lv_icmp_ge (tgt := 43) hx hb dX2_lay_21 (by decide) (fun c1 => ?_) (fun c1 => ?_)
      · replace hf := ot hf c1
        have hf := KR _ (hexit _ (osi hf).symm).symm
        exact x_vW hx hb hr hlocks hP hD hS (by have h9 := congrArg (fun z : (Nat → Int32) × (Nat → Int32) × (Nat → Int32) => (w_X2_lay cI cJ cB q_this q_lanes q_sizes q_items z.1 z.2.1 z.2.2)) hf; exact h9) dX2_lay_43
      · replace hf := oe hf c1
        refine lv_aload_n hx hb dX2_lay_24 rfl (lv_at hl 0 rfl) ?_
        refine p_get (D := (dC, dI)) (ci := 2) (v := .ref q_items) (C := RX2) (T := TX2) (N := 3) 2 fX2_2 hx hb hG inlX2 hown hK.1 hP 0 rfl rfl (by decide) (hG _ mw_106) rfl dX2_lay_25 ?_
        refine lv_iload_n hx hb dX2_lay_28 rfl (lv_at hl 1 rfl) ?_
        refine lv_bipush (v := (24 : Int32)) hx hb dX2_lay_29 (by decide) ?_
        refine lv_imul hx hb dX2_lay_31 ?_
        refine lv_iload hx hb dX2_lay_32 (lv_at hl 2 rfl) ?_
        refine lv_iadd hx hb dX2_lay_34 ?_
        refine lv_iconst (v := (0 : Int32)) hx hb dX2_lay_35 (by decide) ?_
        obtain ⟨g2, hf⟩ := og hf
        refine va_iast hx hb hK.1 hP hD hS 3 0 rfl rfl g2 dX2_lay_36 (fun H locs hP hD hS => ?_)
        have hP : va_P (dC, dI) classes [(q_this, .inr (2, [.ref q_lanes, .ref q_sizes, .ref q_items])), (q_lanes, .inl (cI, 4, .inl vlanes)), (q_sizes, .inl (cI, 4, .inl vsizes)), (q_items, .inl (cI, 96, .inl (upd vitems ((x1 * (24 : Int32)) + x4).toNatClampNeg (0 : Int32))))] H := hP
        have hD : va_D A [(q_this, .inr (2, [.ref q_lanes, .ref q_sizes, .ref q_items])), (q_lanes, .inl (cI, 4, .inl vlanes)), (q_sizes, .inl (cI, 4, .inl vsizes)), (q_items, .inl (cI, 96, .inl (upd vitems ((x1 * (24 : Int32)) + x4).toNatClampNeg (0 : Int32))))] := hD
        refine lv_iinc (v := (x4 + (1 : Int32))) (lv' := [(4, .int (x4 + (1 : Int32))), (0, .ref q_this), (1, .int x1)]) hx hb dX2_lay_37 hl (k := 2) rfl rfl (by decide) rfl (fun ls hl => ?_)
        refine lv_goto (tgt := 17) hx hb dX2_lay_40 (by decide) ?_
        exact ih vlanes vsizes (x4 + (1 : Int32)) (upd vitems ((x1 * (24 : Int32)) + x4).toNatClampNeg (0 : Int32)) res17 (hnext _ (osi hf).symm) _ _ ls hP hD hS (lv_sub hl [1, 2, 0] rfl) KR
  refine lv_aload_n hx hb dX2_lay_0 rfl (lv_at hl 0 rfl) ?_
  refine p_get (D := (dC, dI)) (ci := 2) (v := .ref q_lanes) (C := RX2) (T := TX2) (N := 3) 0 fX2_0 hx hb hG inlX2 hown hK.1 hP 0 rfl rfl (by decide) (hG _ mw_104) rfl dX2_lay_1 ?_
  refine lv_iload_n hx hb dX2_lay_4 rfl (lv_at hl 1 rfl) ?_
  refine lv_iload_n hx hb dX2_lay_5 rfl (lv_at hl 2 rfl) ?_
  obtain ⟨g3, hf⟩ := og hf
  refine va_iast hx hb hK.1 hP hD hS 1 0 rfl rfl g3 dX2_lay_6 (fun H locs hP hD hS => ?_)
  have hP : va_P (dC, dI) classes [(q_this, .inr (2, [.ref q_lanes, .ref q_sizes, .ref q_items])), (q_lanes, .inl (cI, 4, .inl (upd vlanes x1.toNatClampNeg x2))), (q_sizes, .inl (cI, 4, .inl vsizes)), (q_items, .inl (cI, 96, .inl vitems))] H := hP
  have hD : va_D A [(q_this, .inr (2, [.ref q_lanes, .ref q_sizes, .ref q_items])), (q_lanes, .inl (cI, 4, .inl (upd vlanes x1.toNatClampNeg x2))), (q_sizes, .inl (cI, 4, .inl vsizes)), (q_items, .inl (cI, 96, .inl vitems))] := hD
  refine lv_aload_n hx hb dX2_lay_7 rfl (lv_at hl 0 rfl) ?_
  refine p_get (D := (dC, dI)) (ci := 2) (v := .ref q_sizes) (C := RX2) (T := TX2) (N := 3) 1 fX2_1 hx hb hG inlX2 hown hK.1 hP 0 rfl rfl (by decide) (hG _ mw_105) rfl dX2_lay_8 ?_
  refine lv_iload_n hx hb dX2_lay_11 rfl (lv_at hl 1 rfl) ?_
  refine lv_iload_n hx hb dX2_lay_12 rfl (lv_at hl 3 rfl) ?_
  refine va_iast hx hb hK.1 hP hD hS 2 0 rfl rfl g3 dX2_lay_13 (fun H locs hP hD hS => ?_)
  have hP : va_P (dC, dI) classes [(q_this, .inr (2, [.ref q_lanes, .ref q_sizes, .ref q_items])), (q_lanes, .inl (cI, 4, .inl (upd vlanes x1.toNatClampNeg x2))), (q_sizes, .inl (cI, 4, .inl (upd vsizes x1.toNatClampNeg x3))), (q_items, .inl (cI, 96, .inl vitems))] H := hP
  have hD : va_D A [(q_this, .inr (2, [.ref q_lanes, .ref q_sizes, .ref q_items])), (q_lanes, .inl (cI, 4, .inl (upd vlanes x1.toNatClampNeg x2))), (q_sizes, .inl (cI, 4, .inl (upd vsizes x1.toNatClampNeg x3))), (q_items, .inl (cI, 96, .inl vitems))] := hD
  refine lv_iconst (v := (0 : Int32)) hx hb dX2_lay_14 (by decide) ?_
  refine lv_istore (lv' := [(4, .int (0 : Int32)), (0, .ref q_this), (1, .int x1), (2, .int x2), (3, .int x3)]) hx hb dX2_lay_15 hl (by decide) rfl (fun ls hl => ?_)
  obtain ⟨e4, hp4, hf⟩ := ob hf
  exact hL17 N (upd vlanes x1.toNatClampNeg x2) (upd vsizes x1.toNatClampNeg x3) (0 : Int32) vitems e4 hp4 _ _ ls hP hD hS (lv_sub hl [1, 2, 0] rfl) (fun q9 h9 => by subst h9; exact osi hf)
def f_X2_lowestBits (x0 : Int32) (x1 : Int32) : Option (Int32) := (if x0 = (0 : Int32) then some (x1.toInt8.toInt32) else (if x0 = (1 : Int32) then some (x1.toInt16.toInt32) else some x1))
def w_X2_lowestBits (cI cJ cB : ClassId) : va_W := []
set_option maxHeartbeats 4000000 in
set_option maxRecDepth 100000 in
theorem c_X2_lowestBits (l : Launch) (dC : Nat → ClassId) (dI : Nat → Nat → Nat) (cI cJ cB : ClassId) (x0 : Int32) (x1 : Int32) {r : Int32} (hf : f_X2_lowestBits x0 x1 = some r) : Met l yX2_lowestBits (Cond.code yX2_lowestBits cX2_lowestBits 2 (some .int) :: wsL_law) (kR 0) (va_Pc [.int x0, .int x1] (pR (dC, dI) cI cJ cB (w_X2_lowestBits cI cJ cB ))) (qRi r) 0 0 (fun _ => False) := by
  refine k_ro (cc := cX2_lowestBits) (n := 2) (ret := (some .int)) (by decide) (Nat.le_of_ble_eq_true rfl) ?_
  intro p e s m args below meth c ls hx hb hr hml hts hown hlocks hK hP hl
  have hP : va_P (dC, dI) classes [] s.heap := hP
  have hG : ∀ w ∈ wsL_law, w.before args s = true := fun w h => hts w (List.mem_cons_of_mem _ h)
  have hown : s.vm.findClass RX2 = some m.cls := hown
  have hl : lv_has ls 2 [(0, .int x0), (1, .int x1)] := hl
  unfold f_X2_lowestBits at hf
  refine lv_iload_n hx hb dX2_lowestBits_0 rfl (lv_at hl 0 rfl) ?_
  by_cases s1 : x0 = (0 : Int32)
  · replace hf := ot hf s1
    refine lv_lookup (tgt := 28) (off := 27) hx hb dX2_lowestBits_1 (by decide) (by rw [s1]; decide) (by decide) ?_
    refine lv_iload_n hx hb dX2_lowestBits_28 rfl (lv_at hl 1 rfl) ?_
    refine lv_i2b hx hb dX2_lowestBits_29 rfl ?_
    have hf := osi hf
    exact x_iR hx hb hr hlocks hf dX2_lowestBits_30
  replace hf := oe hf s1
  by_cases s2 : x0 = (1 : Int32)
  · replace hf := ot hf s2
    refine lv_lookup (tgt := 31) (off := 30) hx hb dX2_lowestBits_1 (by decide) (by rw [s2]; decide) (by decide) ?_
    refine lv_iload_n hx hb dX2_lowestBits_31 rfl (lv_at hl 1 rfl) ?_
    refine lv_i2s hx hb dX2_lowestBits_32 rfl ?_
    have hf := osi hf
    exact x_iR hx hb hr hlocks hf dX2_lowestBits_33
  replace hf := oe hf s2
  refine lv_lookup (tgt := 34) (off := 33) hx hb dX2_lowestBits_1 (by decide) ((lv_osw s1 (by decide)).trans ((lv_osw s2 (by decide)).trans rfl)) (by decide) ?_
  refine lv_iload_n hx hb dX2_lowestBits_34 rfl (lv_at hl 1 rfl) ?_
  have hf := osi hf
  exact x_iR hx hb hr hlocks hf dX2_lowestBits_35
def f_X2_put (vlanes : Nat → Int32) (vitems : Nat → Int32) (x1 : Int32) (x2 : Int32) (x3 : Int32) : Option ((Nat → Int32)) := (if x1 < 0 ∨ 4 ≤ x1.toNatClampNeg then none else ((f_X2_lowestBits (vlanes x1.toNatClampNeg) x3).bind (fun u2 => (if ((x1 * (24 : Int32)) + x2) < 0 ∨ 96 ≤ ((x1 * (24 : Int32)) + x2).toNatClampNeg then none else some (upd vitems ((x1 * (24 : Int32)) + x2).toNatClampNeg u2)))))
def w_X2_put (cI cJ cB : ClassId) (q_this q_lanes q_sizes q_items : Nat) (vlanes : Nat → Int32) (vitems : Nat → Int32) : va_W := [(q_this, .inr (2, [.ref q_lanes, .ref q_sizes, .ref q_items])), (q_lanes, .inl (cI, 4, .inl vlanes)), (q_items, .inl (cI, 96, .inl vitems))]
set_option maxHeartbeats 4000000 in
set_option maxRecDepth 100000 in
theorem c_X2_put (l : Launch) (dC : Nat → ClassId) (dI : Nat → Nat → Nat) (cI cJ cB : ClassId) (q_this q_lanes q_sizes q_items : Nat) (vlanes : Nat → Int32) (vitems : Nat → Int32) (x1 : Int32) (x2 : Int32) (x3 : Int32) (sz : Nat) {r : (Nat → Int32)} (hf : f_X2_put vlanes vitems x1 x2 x3 = some r) : Met l yX2_put (Cond.code yX2_put cX2_put 4 none :: wsL_law) (kR 1) (va_Pc [.ref q_this, .int x1, .int x2, .int x3] (pW (dC, dI) cI cJ cB (w_X2_put cI cJ cB q_this q_lanes q_sizes q_items vlanes vitems) sz)) (qWv (fun w => w = (w_X2_put cI cJ cB q_this q_lanes q_sizes q_items vlanes r)) (dC, dI) (va_A (w_X2_put cI cJ cB q_this q_lanes q_sizes q_items vlanes vitems) sz)) 0 0 (va_A (w_X2_put cI cJ cB q_this q_lanes q_sizes q_items vlanes vitems) sz) := by
  refine k_wr (Qc := fun A => (qWv (fun w => w = (w_X2_put cI cJ cB q_this q_lanes q_sizes q_items vlanes r)) (dC, dI) A)) (cc := cX2_put) (n := 4) (ret := none) (by decide) (Nat.le_of_ble_eq_true rfl) ?_
  intro p e s m args below meth c ls A hx hb hr hml hts hown hlocks hnm hA hK hP hD hS hl
  have hD : va_D A [(q_this, .inr (2, [.ref q_lanes, .ref q_sizes, .ref q_items])), (q_lanes, .inl (cI, 4, .inl vlanes)), (q_items, .inl (cI, 96, .inl vitems))] := hD
  have hP : va_P (dC, dI) classes [(q_this, .inr (2, [.ref q_lanes, .ref q_sizes, .ref q_items])), (q_lanes, .inl (cI, 4, .inl vlanes)), (q_items, .inl (cI, 96, .inl vitems))] s.heap := hP
  have hG : ∀ w ∈ wsL_law, w.before args s = true := fun w h => hts w (List.mem_cons_of_mem _ h)
  have hown : s.vm.findClass RX2 = some m.cls := hown
  have hl : lv_has ls 4 [(0, .ref q_this), (1, .int x1), (2, .int x2), (3, .int x3)] := hl
  unfold f_X2_put at hf
  refine lv_aload_n hx hb dX2_put_0 rfl (lv_at hl 0 rfl) ?_
  refine p_get (D := (dC, dI)) (ci := 2) (v := .ref q_items) (C := RX2) (T := TX2) (N := 3) 2 fX2_2 hx hb hG inlX2 hown hK.1 hP 0 rfl rfl (by decide) (hG _ mw_106) rfl dX2_put_1 ?_
  refine lv_iload_n hx hb dX2_put_4 rfl (lv_at hl 1 rfl) ?_
  refine lv_bipush (v := (24 : Int32)) hx hb dX2_put_5 (by decide) ?_
  refine lv_imul hx hb dX2_put_7 ?_
  refine lv_iload_n hx hb dX2_put_8 rfl (lv_at hl 2 rfl) ?_
  refine lv_iadd hx hb dX2_put_9 ?_
  refine lv_aload_n hx hb dX2_put_10 rfl (lv_at hl 0 rfl) ?_
  refine p_get (D := (dC, dI)) (ci := 2) (v := .ref q_lanes) (C := RX2) (T := TX2) (N := 3) 0 fX2_0 hx hb hG inlX2 hown hK.1 hP 0 rfl rfl (by decide) (hG _ mw_104) rfl dX2_put_11 ?_
  refine lv_iload_n hx hb dX2_put_14 rfl (lv_at hl 1 rfl) ?_
  obtain ⟨g1, hf⟩ := og hf
  refine va_iald hx hb hK.1 hP 1 0 rfl rfl g1 dX2_put_15 ?_
  refine lv_iload_n hx hb dX2_put_16 rfl (lv_at hl 3 rfl) ?_
  obtain ⟨u2, hu2, hf⟩ := ob hf
  refine k_Si (As := [.int (vlanes x1.toNatClampNeg), .int x3]) (rest := [.int ((x1 * (24 : Int32)) + x2), .ref q_items]) ⟨hx, hb, hml, hown, hts⟩ hK hP [] rfl (c_X2_lowestBits l dC dI cI cJ cB (vlanes x1.toNatClampNeg) x3 hu2) (gl_X2_37 hts ⟨(Nat.le_of_ble_eq_true rfl), (Nat.le_of_ble_eq_true rfl)⟩) rfl hl.1 rfl (Nat.le_of_ble_eq_true rfl) dX2_put_17 ⟨Nat.zero_le _, Nat.zero_le _⟩ ?_
  obtain ⟨g3, hf⟩ := og hf
  refine va_iast hx hb hK.1 hP hD hS 2 0 rfl rfl g3 dX2_put_20 (fun H locs hP hD hS => ?_)
  have hP : va_P (dC, dI) classes [(q_this, .inr (2, [.ref q_lanes, .ref q_sizes, .ref q_items])), (q_lanes, .inl (cI, 4, .inl vlanes)), (q_items, .inl (cI, 96, .inl (upd vitems ((x1 * (24 : Int32)) + x2).toNatClampNeg u2)))] H := hP
  have hD : va_D A [(q_this, .inr (2, [.ref q_lanes, .ref q_sizes, .ref q_items])), (q_lanes, .inl (cI, 4, .inl vlanes)), (q_items, .inl (cI, 96, .inl (upd vitems ((x1 * (24 : Int32)) + x2).toNatClampNeg u2)))] := hD
  have hf := osi hf
  exact x_vW hx hb hr hlocks hP hD hS (by have h9 := congrArg (fun z : (Nat → Int32) => (w_X2_put cI cJ cB q_this q_lanes q_sizes q_items vlanes z)) hf; exact h9) dX2_put_21
def f_X2_refusalOfRow (vlanes : Nat → Int32) (vsizes : Nat → Int32) (x1 : Int32) (x2 : Int32) (x3 : Int32) (x4 : Int32) : Option (Int32) := ((f_X2_isSheet x1).bind (fun u1 => (if u1 = 0 then some (-1 : Int32) else ((f_X2_isLane x2).bind (fun u3 => (if u3 = 0 then some (-1 : Int32) else ((f_X2_isMissing vlanes x1).bind (fun u5 => (if u5 = 0 then (if x1 < 0 ∨ 4 ≤ x1.toNatClampNeg then none else (if (vlanes x1.toNatClampNeg) = x2 then (if x3 < 0 then some (-13 : Int32) else (if x3 ≤ ((vsizes x1.toNatClampNeg) - x4) then some (0 : Int32) else some (-13 : Int32))) else some (-12 : Int32))) else some (-11 : Int32))))))))))
def w_X2_refusalOfRow (cI cJ cB : ClassId) (q_this q_lanes q_sizes q_items : Nat) (vlanes : Nat → Int32) (vsizes : Nat → Int32) : va_W := [(q_this, .inr (2, [.ref q_lanes, .ref q_sizes, .ref q_items])), (q_lanes, .inl (cI, 4, .inl vlanes)), (q_sizes, .inl (cI, 4, .inl vsizes))]
set_option maxHeartbeats 4000000 in
set_option maxRecDepth 100000 in
theorem c_X2_refusalOfRow (l : Launch) (dC : Nat → ClassId) (dI : Nat → Nat → Nat) (cI cJ cB : ClassId) (q_this q_lanes q_sizes q_items : Nat) (vlanes : Nat → Int32) (vsizes : Nat → Int32) (x1 : Int32) (x2 : Int32) (x3 : Int32) (x4 : Int32) {r : Int32} (hf : f_X2_refusalOfRow vlanes vsizes x1 x2 x3 x4 = some r) : Met l yX2_refusalOfRow (Cond.code yX2_refusalOfRow cX2_refusalOfRow 5 (some .int) :: wsL_law) (kR 1) (va_Pc [.ref q_this, .int x1, .int x2, .int x3, .int x4] (pR (dC, dI) cI cJ cB (w_X2_refusalOfRow cI cJ cB q_this q_lanes q_sizes q_items vlanes vsizes))) (qRi r) 0 0 (fun _ => False) := by
  refine k_ro (cc := cX2_refusalOfRow) (n := 5) (ret := (some .int)) (by decide) (Nat.le_of_ble_eq_true rfl) ?_
  intro p e s m args below meth c ls hx hb hr hml hts hown hlocks hK hP hl
  have hP : va_P (dC, dI) classes [(q_this, .inr (2, [.ref q_lanes, .ref q_sizes, .ref q_items])), (q_lanes, .inl (cI, 4, .inl vlanes)), (q_sizes, .inl (cI, 4, .inl vsizes))] s.heap := hP
  have hG : ∀ w ∈ wsL_law, w.before args s = true := fun w h => hts w (List.mem_cons_of_mem _ h)
  have hown : s.vm.findClass RX2 = some m.cls := hown
  have hl : lv_has ls 5 [(0, .ref q_this), (1, .int x1), (2, .int x2), (3, .int x3), (4, .int x4)] := hl
  unfold f_X2_refusalOfRow at hf
  refine lv_iload_n hx hb dX2_refusalOfRow_0 rfl (lv_at hl 1 rfl) ?_
  obtain ⟨u1, hu1, hf⟩ := ob hf
  refine k_Si (As := [.int x1]) (rest := []) ⟨hx, hb, hml, hown, hts⟩ hK hP [] rfl (c_X2_isSheet l dC dI cI cJ cB x1 hu1) (gl_X2_27 hts ⟨(Nat.le_of_ble_eq_true rfl), (Nat.le_of_ble_eq_true rfl)⟩) rfl hl.1 rfl (Nat.le_of_ble_eq_true rfl) dX2_refusalOfRow_1 ⟨Nat.zero_le _, Nat.zero_le _⟩ ?_
  refine lv_if_eq (tgt := 14) hx hb dX2_refusalOfRow_4 (by decide) (fun c2 => ?_) (fun c2 => ?_)
  · replace hf := ot hf c2
    refine lv_iconst (v := (-1 : Int32)) hx hb dX2_refusalOfRow_14 (by decide) ?_
    have hf := osi hf
    exact x_iR hx hb hr hlocks hf dX2_refusalOfRow_15
  · replace hf := oe hf c2
    refine lv_iload_n hx hb dX2_refusalOfRow_7 rfl (lv_at hl 2 rfl) ?_
    obtain ⟨u3, hu3, hf⟩ := ob hf
    refine k_Si (As := [.int x2]) (rest := []) ⟨hx, hb, hml, hown, hts⟩ hK hP [] rfl (c_X2_isLane l dC dI cI cJ cB x2 hu3) (gl_X2_31 hts ⟨(Nat.le_of_ble_eq_true rfl), (Nat.le_of_ble_eq_true rfl)⟩) rfl hl.1 rfl (Nat.le_of_ble_eq_true rfl) dX2_refusalOfRow_8 ⟨Nat.zero_le _, Nat.zero_le _⟩ ?_
    refine lv_if_ne (tgt := 16) hx hb dX2_refusalOfRow_11 (by decide) (fun c4 => ?_) (fun c4 => ?_)
    · replace hf := oe hf c4
      refine lv_aload_n hx hb dX2_refusalOfRow_16 rfl (lv_at hl 0 rfl) ?_
      refine lv_iload_n hx hb dX2_refusalOfRow_17 rfl (lv_at hl 1 rfl) ?_
      obtain ⟨u5, hu5, hf⟩ := ob hf
      refine k_Vi (As := [.int x1]) (rest := []) ⟨hx, hb, hml, hown, hts⟩ hK hP [0, 1] rfl (c_X2_isMissing l dC dI cI cJ cB q_this q_lanes q_sizes q_items vlanes x1 hu5) (gl_X2_34 hts ⟨(Nat.le_of_ble_eq_true rfl), (Nat.le_of_ble_eq_true rfl)⟩) 0 2 rfl rfl rfl rfl hl.1 rfl (Nat.le_of_ble_eq_true rfl) dX2_refusalOfRow_18 ⟨Nat.zero_le _, Nat.zero_le _⟩ ?_
      refine lv_if_eq (tgt := 27) hx hb dX2_refusalOfRow_21 (by decide) (fun c6 => ?_) (fun c6 => ?_)
      · replace hf := ot hf c6
        refine lv_aload_n hx hb dX2_refusalOfRow_27 rfl (lv_at hl 0 rfl) ?_
        refine p_get (D := (dC, dI)) (ci := 2) (v := .ref q_lanes) (C := RX2) (T := TX2) (N := 3) 0 fX2_0 hx hb hG inlX2 hown hK.1 hP 0 rfl rfl (by decide) (hG _ mw_104) rfl dX2_refusalOfRow_28 ?_
        refine lv_iload_n hx hb dX2_refusalOfRow_31 rfl (lv_at hl 1 rfl) ?_
        obtain ⟨g7, hf⟩ := og hf
        refine va_iald hx hb hK.1 hP 1 0 rfl rfl g7 dX2_refusalOfRow_32 ?_
        refine lv_iload_n hx hb dX2_refusalOfRow_33 rfl (lv_at hl 2 rfl) ?_
        refine lv_icmp_eq (tgt := 40) hx hb dX2_refusalOfRow_34 (by decide) (fun c8 => ?_) (fun c8 => ?_)
        · replace hf := ot hf c8
          refine lv_iload_n hx hb dX2_refusalOfRow_40 rfl (lv_at hl 3 rfl) ?_
          refine lv_if_lt (tgt := 57) hx hb dX2_refusalOfRow_41 (by decide) (fun c9 => ?_) (fun c9 => ?_)
          · replace hf := ot hf c9
            refine lv_bipush (v := (-13 : Int32)) hx hb dX2_refusalOfRow_57 (by decide) ?_
            refine lv_goto (tgt := 63) hx hb dX2_refusalOfRow_59 (by decide) ?_
            have hf := osi hf
            exact x_iR hx hb hr hlocks hf dX2_refusalOfRow_63
          · replace hf := oe hf c9
            refine lv_iload_n hx hb dX2_refusalOfRow_44 rfl (lv_at hl 3 rfl) ?_
            refine lv_aload_n hx hb dX2_refusalOfRow_45 rfl (lv_at hl 0 rfl) ?_
            refine p_get (D := (dC, dI)) (ci := 2) (v := .ref q_sizes) (C := RX2) (T := TX2) (N := 3) 1 fX2_1 hx hb hG inlX2 hown hK.1 hP 0 rfl rfl (by decide) (hG _ mw_105) rfl dX2_refusalOfRow_46 ?_
            refine lv_iload_n hx hb dX2_refusalOfRow_49 rfl (lv_at hl 1 rfl) ?_
            refine va_iald hx hb hK.1 hP 2 0 rfl rfl g7 dX2_refusalOfRow_50 ?_
            refine lv_iload hx hb dX2_refusalOfRow_51 (lv_at hl 4 rfl) ?_
            refine lv_isub hx hb dX2_refusalOfRow_53 ?_
            refine lv_icmp_le (tgt := 62) hx hb dX2_refusalOfRow_54 (by decide) (fun c10 => ?_) (fun c10 => ?_)
            · replace hf := ot hf c10
              refine lv_iconst (v := (0 : Int32)) hx hb dX2_refusalOfRow_62 (by decide) ?_
              have hf := osi hf
              exact x_iR hx hb hr hlocks hf dX2_refusalOfRow_63
            · replace hf := oe hf c10
              refine lv_bipush (v := (-13 : Int32)) hx hb dX2_refusalOfRow_57 (by decide) ?_
              refine lv_goto (tgt := 63) hx hb dX2_refusalOfRow_59 (by decide) ?_
              have hf := osi hf
              exact x_iR hx hb hr hlocks hf dX2_refusalOfRow_63
        · replace hf := oe hf c8
          refine lv_bipush (v := (-12 : Int32)) hx hb dX2_refusalOfRow_37 (by decide) ?_
          have hf := osi hf
          exact x_iR hx hb hr hlocks hf dX2_refusalOfRow_39
      · replace hf := oe hf c6
        refine lv_bipush (v := (-11 : Int32)) hx hb dX2_refusalOfRow_24 (by decide) ?_
        have hf := osi hf
        exact x_iR hx hb hr hlocks hf dX2_refusalOfRow_26
    · replace hf := ot hf c4
      refine lv_iconst (v := (-1 : Int32)) hx hb dX2_refusalOfRow_14 (by decide) ?_
      have hf := osi hf
      exact x_iR hx hb hr hlocks hf dX2_refusalOfRow_15
def f_X2_takeAway (vlanes : Nat → Int32) (vsizes : Nat → Int32) (x1 : Int32) : Option (Int32 × (Nat → Int32)) := (if x1 < 0 ∨ 4 ≤ x1.toNatClampNeg then none else some ((vsizes x1.toNatClampNeg), (upd vlanes x1.toNatClampNeg (-1 : Int32))))
def w_X2_takeAway (cI cJ cB : ClassId) (q_this q_lanes q_sizes q_items : Nat) (vlanes : Nat → Int32) (vsizes : Nat → Int32) : va_W := [(q_this, .inr (2, [.ref q_lanes, .ref q_sizes, .ref q_items])), (q_lanes, .inl (cI, 4, .inl vlanes)), (q_sizes, .inl (cI, 4, .inl vsizes))]
set_option maxHeartbeats 4000000 in
set_option maxRecDepth 100000 in
theorem c_X2_takeAway (l : Launch) (dC : Nat → ClassId) (dI : Nat → Nat → Nat) (cI cJ cB : ClassId) (q_this q_lanes q_sizes q_items : Nat) (vlanes : Nat → Int32) (vsizes : Nat → Int32) (x1 : Int32) (sz : Nat) {r : Int32 × (Nat → Int32)} (hf : f_X2_takeAway vlanes vsizes x1 = some r) : Met l yX2_takeAway (Cond.code yX2_takeAway cX2_takeAway 2 (some .int) :: wsL_law) (kR 0) (va_Pc [.ref q_this, .int x1] (pW (dC, dI) cI cJ cB (w_X2_takeAway cI cJ cB q_this q_lanes q_sizes q_items vlanes vsizes) sz)) (qWi r.1 (fun w => w = (w_X2_takeAway cI cJ cB q_this q_lanes q_sizes q_items r.2 vsizes)) (dC, dI) (va_A (w_X2_takeAway cI cJ cB q_this q_lanes q_sizes q_items vlanes vsizes) sz)) 0 0 (va_A (w_X2_takeAway cI cJ cB q_this q_lanes q_sizes q_items vlanes vsizes) sz) := by
  refine k_wr (Qc := fun A => (qWi r.1 (fun w => w = (w_X2_takeAway cI cJ cB q_this q_lanes q_sizes q_items r.2 vsizes)) (dC, dI) A)) (cc := cX2_takeAway) (n := 2) (ret := (some .int)) (by decide) (Nat.le_of_ble_eq_true rfl) ?_
  intro p e s m args below meth c ls A hx hb hr hml hts hown hlocks hnm hA hK hP hD hS hl
  have hD : va_D A [(q_this, .inr (2, [.ref q_lanes, .ref q_sizes, .ref q_items])), (q_lanes, .inl (cI, 4, .inl vlanes)), (q_sizes, .inl (cI, 4, .inl vsizes))] := hD
  have hP : va_P (dC, dI) classes [(q_this, .inr (2, [.ref q_lanes, .ref q_sizes, .ref q_items])), (q_lanes, .inl (cI, 4, .inl vlanes)), (q_sizes, .inl (cI, 4, .inl vsizes))] s.heap := hP
  have hG : ∀ w ∈ wsL_law, w.before args s = true := fun w h => hts w (List.mem_cons_of_mem _ h)
  have hown : s.vm.findClass RX2 = some m.cls := hown
  have hl : lv_has ls 2 [(0, .ref q_this), (1, .int x1)] := hl
  unfold f_X2_takeAway at hf
  refine lv_aload_n hx hb dX2_takeAway_0 rfl (lv_at hl 0 rfl) ?_
  refine p_get (D := (dC, dI)) (ci := 2) (v := .ref q_lanes) (C := RX2) (T := TX2) (N := 3) 0 fX2_0 hx hb hG inlX2 hown hK.1 hP 0 rfl rfl (by decide) (hG _ mw_104) rfl dX2_takeAway_1 ?_
  refine lv_iload_n hx hb dX2_takeAway_4 rfl (lv_at hl 1 rfl) ?_
  refine lv_iconst (v := (-1 : Int32)) hx hb dX2_takeAway_5 (by decide) ?_
  obtain ⟨g1, hf⟩ := og hf
  refine va_iast hx hb hK.1 hP hD hS 1 0 rfl rfl g1 dX2_takeAway_6 (fun H locs hP hD hS => ?_)
  have hP : va_P (dC, dI) classes [(q_this, .inr (2, [.ref q_lanes, .ref q_sizes, .ref q_items])), (q_lanes, .inl (cI, 4, .inl (upd vlanes x1.toNatClampNeg (-1 : Int32)))), (q_sizes, .inl (cI, 4, .inl vsizes))] H := hP
  have hD : va_D A [(q_this, .inr (2, [.ref q_lanes, .ref q_sizes, .ref q_items])), (q_lanes, .inl (cI, 4, .inl (upd vlanes x1.toNatClampNeg (-1 : Int32)))), (q_sizes, .inl (cI, 4, .inl vsizes))] := hD
  refine lv_aload_n hx hb dX2_takeAway_7 rfl (lv_at hl 0 rfl) ?_
  refine p_get (D := (dC, dI)) (ci := 2) (v := .ref q_sizes) (C := RX2) (T := TX2) (N := 3) 1 fX2_1 hx hb hG inlX2 hown hK.1 hP 0 rfl rfl (by decide) (hG _ mw_105) rfl dX2_takeAway_8 ?_
  refine lv_iload_n hx hb dX2_takeAway_11 rfl (lv_at hl 1 rfl) ?_
  refine va_iald hx hb hK.1 hP 2 0 rfl rfl g1 dX2_takeAway_12 ?_
  have hf := osi hf
  exact x_iW hx hb hr hlocks hP hD hS (by have h9 := congrArg (fun z : Int32 × (Nat → Int32) => (w_X2_takeAway cI cJ cB q_this q_lanes q_sizes q_items z.2 vsizes)) hf; exact h9) (by have h9 := congrArg (fun z : Int32 × (Nat → Int32) => z.1) hf; exact h9) dX2_takeAway_13
