def f_X1_lower_B2 (x1 : Int32) (vabove : Int64) (vbelow : Int64) : Option ((Int32 × Int64 × Int64) ⊕ (Int64 × Int64)) := (if (64 : Int32) ≤ x1 then some (.inr (vabove, vbelow)) else (if (lg_cmp (vabove &&& (1 : Int64)) (0 : Int64)) = 0 then (if (lg_cmp (vbelow &&& (1 : Int64)) (0 : Int64)) = 0 then some (.inl ((x1 + (1 : Int32)), (vabove / (2 : Int64)), (vbelow / (2 : Int64)))) else some (.inr (vabove, vbelow))) else some (.inr (vabove, vbelow))))
def f_X1_lower (N : Nat) (vabove : Int64) (vbelow : Int64) : Option (Int64 × Int64) := ((lp (fun s => f_X1_lower_B2 s.1 s.2.1 s.2.2) N ((0 : Int32), vabove, vbelow)).bind (fun e4 => some e4))
def w_X1_lower (cI cJ cB : ClassId) (q_this q_now q_then q_trial : Nat) (vabove : Int64) (vbelow : Int64) : va_W := [(q_this, .inr (1, [.long vabove, .long vbelow, .ref q_now, .ref q_then, .ref q_trial]))]
set_option maxHeartbeats 4000000 in
set_option maxRecDepth 100000 in
theorem c_X1_lower (l : Launch) (dC : Nat → ClassId) (dI : Nat → Nat → Nat) (cI cJ cB : ClassId) (q_this q_now q_then q_trial : Nat) (vabove : Int64) (vbelow : Int64) (sz : Nat) {N : Nat} {r : Int64 × Int64} (hf : f_X1_lower N vabove vbelow = some r) : Met l yX1_lower (Cond.code yX1_lower cX1_lower 2 none :: wsL_law) (kR 0) (va_Pc [.ref q_this] (pW (dC, dI) cI cJ cB (w_X1_lower cI cJ cB q_this q_now q_then q_trial vabove vbelow) sz)) (qWv (fun w => w = (w_X1_lower cI cJ cB q_this q_now q_then q_trial r.1 r.2)) (dC, dI) (va_A (w_X1_lower cI cJ cB q_this q_now q_then q_trial vabove vbelow) sz)) 0 0 (va_A (w_X1_lower cI cJ cB q_this q_now q_then q_trial vabove vbelow) sz) := by
  refine k_wr (Qc := fun A => (qWv (fun w => w = (w_X1_lower cI cJ cB q_this q_now q_then q_trial r.1 r.2)) (dC, dI) A)) (cc := cX1_lower) (n := 2) (ret := none) (by decide) (Nat.le_of_ble_eq_true rfl) ?_
  intro p e s m args below meth c ls A hx hb hr hml hts hown hlocks hnm hA hK hP hD hS hl
  have hD : va_D A [(q_this, .inr (1, [.long vabove, .long vbelow, .ref q_now, .ref q_then, .ref q_trial]))] := hD
  have hP : va_P (dC, dI) classes [(q_this, .inr (1, [.long vabove, .long vbelow, .ref q_now, .ref q_then, .ref q_trial]))] s.heap := hP
  have hG : ∀ w ∈ wsL_law, w.before args s = true := fun w h => hts w (List.mem_cons_of_mem _ h)
  have hown : s.vm.findClass RX1 = some m.cls := hown
  have hl : lv_has ls 2 [(0, .ref q_this)] := hl
  unfold f_X1_lower at hf
  have hL2 : ∀ (n : Nat) (x1 : Int32) (vabove : Int64) (vbelow : Int64) (res2 : Int64 × Int64), lp (fun s => f_X1_lower_B2 s.1 s.2.1 s.2.2) n (x1, vabove, vbelow) = some res2 → ∀ (H : Heap) (locs : List Loc) (ls : Array Slot), va_P (dC, dI) classes [(q_this, .inr (1, [.long vabove, .long vbelow, .ref q_now, .ref q_then, .ref q_trial]))] H → va_D A [(q_this, .inr (1, [.long vabove, .long vbelow, .ref q_now, .ref q_then, .ref q_trial]))] → va_S A s.heap H locs → lv_has ls 2 [(0, .ref q_this), (1, .int x1)] → (∀ q9 : Int64 × Int64, res2 = q9 → q9 = r) → W p l e (kR 0) s m args below meth c H locs 0 0 (MQ below (qWv (fun w => w = (w_X1_lower cI cJ cB q_this q_now q_then q_trial r.1 r.2)) (dC, dI) A) args s 0 0 A) (F0 m 2 ls []) := by
    intro n
    induction n with
    | zero => intro x1 vabove vbelow res2 h9; exact (lp_zero h9).elim
    | succ n ih =>
      intro x1 vabove vbelow res2 h9 H locs ls hP hD hS hl KR
      obtain ⟨o2, hf, hnext, hexit⟩ := lp_succ h9
      have hf : f_X1_lower_B2 x1 vabove vbelow = some o2 := hf
      unfold f_X1_lower_B2 at hf
      refine lv_iload_n hx hb dX1_lower_2 rfl (lv_at hl 1 rfl) ?_
      refine lv_bipush (v := (64 : Int32)) hx hb dX1_lower_3 (by decide) ?_
      refine lv_icmp_ge (tgt := 60) hx hb dX1_lower_5 (by decide) (fun c1 => ?_) (fun c1 => ?_)
      · replace hf := ot hf c1
        have hf := KR _ (hexit _ (osi hf).symm).symm
        exact x_vW hx hb hr hlocks hP hD hS (by have h9 := congrArg (fun z : Int64 × Int64 => (w_X1_lower cI cJ cB q_this q_now q_then q_trial z.1 z.2)) hf; exact h9) dX1_lower_60
      · replace hf := oe hf c1
        refine lv_aload_n hx hb dX1_lower_8 rfl (lv_at hl 0 rfl) ?_
        refine p_get (D := (dC, dI)) (ci := 1) (v := .long vabove) (C := RX1) (T := TX1) (N := 5) 0 fX1_0 hx hb hG inlX1 hown hK.1 hP 0 rfl rfl (by decide) (hG _ mw_82) rfl dX1_lower_9 ?_
        refine lv_lconst (v := (1 : Int64)) hx hb dX1_lower_12 (by decide) ?_
        refine lv_land hx hb dX1_lower_13 ?_
        refine lv_lconst (v := (0 : Int64)) hx hb dX1_lower_14 (by decide) ?_
        refine W.lcmp hx hb dX1_lower_15 ?_
        refine lv_if_ne (tgt := 60) hx hb dX1_lower_16 (by decide) (fun c2 => ?_) (fun c2 => ?_)
        · replace hf := oe hf c2
          have hf := KR _ (hexit _ (osi hf).symm).symm
          exact x_vW hx hb hr hlocks hP hD hS (by have h9 := congrArg (fun z : Int64 × Int64 => (w_X1_lower cI cJ cB q_this q_now q_then q_trial z.1 z.2)) hf; exact h9) dX1_lower_60
        · replace hf := ot hf c2
          refine lv_aload_n hx hb dX1_lower_19 rfl (lv_at hl 0 rfl) ?_
          refine p_get (D := (dC, dI)) (ci := 1) (v := .long vbelow) (C := RX1) (T := TX1) (N := 5) 1 fX1_1 hx hb hG inlX1 hown hK.1 hP 0 rfl rfl (by decide) (hG _ mw_83) rfl dX1_lower_20 ?_
          refine lv_lconst (v := (1 : Int64)) hx hb dX1_lower_23 (by decide) ?_
          refine lv_land hx hb dX1_lower_24 ?_
          refine lv_lconst (v := (0 : Int64)) hx hb dX1_lower_25 (by decide) ?_
          refine W.lcmp hx hb dX1_lower_26 ?_
          refine lv_if_ne (tgt := 60) hx hb dX1_lower_27 (by decide) (fun c3 => ?_) (fun c3 => ?_)
          · replace hf := oe hf c3
            have hf := KR _ (hexit _ (osi hf).symm).symm
            exact x_vW hx hb hr hlocks hP hD hS (by have h9 := congrArg (fun z : Int64 × Int64 => (w_X1_lower cI cJ cB q_this q_now q_then q_trial z.1 z.2)) hf; exact h9) dX1_lower_60
          · replace hf := ot hf c3
            refine lv_aload_n hx hb dX1_lower_30 rfl (lv_at hl 0 rfl) ?_
            refine lv_dup hx hb dX1_lower_31 rfl ?_
            refine p_get (D := (dC, dI)) (ci := 1) (v := .long vabove) (C := RX1) (T := TX1) (N := 5) 0 fX1_0 hx hb hG inlX1 hown hK.1 hP 0 rfl rfl (by decide) (hG _ mw_82) rfl dX1_lower_32 ?_
            refine lv_ldc2 (v := (2 : Int64)) hx hb hown (hG _ mw_776) dX1_lower_35 ?_
            refine lv_ldiv hx hb dX1_lower_38 (by decide) ?_
            refine p_put (D := (dC, dI)) (ci := 1) (v := .long (vabove / (2 : Int64))) (ty := .long) (C := RX1) (T := TX1) (N := 5) 0 fX1_0 hx hb hG inlX1 tyX1 tyX1_ok nmX1 hown hK.1 hP hD hS 0 rfl rfl (by decide) (hG _ mw_82) rfl (by decide +kernel) rfl rfl (Nat.le_of_ble_eq_true rfl) dX1_lower_39 (fun H locs hP hD hS => ?_)
            have hP : va_P (dC, dI) classes [(q_this, .inr (1, [.long (vabove / (2 : Int64)), .long vbelow, .ref q_now, .ref q_then, .ref q_trial]))] H := hP
            have hD : va_D A [(q_this, .inr (1, [.long (vabove / (2 : Int64)), .long vbelow, .ref q_now, .ref q_then, .ref q_trial]))] := hD
            refine lv_aload_n hx hb dX1_lower_42 rfl (lv_at hl 0 rfl) ?_
            refine lv_dup hx hb dX1_lower_43 rfl ?_
            refine p_get (D := (dC, dI)) (ci := 1) (v := .long vbelow) (C := RX1) (T := TX1) (N := 5) 1 fX1_1 hx hb hG inlX1 hown hK.1 hP 0 rfl rfl (by decide) (hG _ mw_83) rfl dX1_lower_44 ?_
            refine lv_ldc2 (v := (2 : Int64)) hx hb hown (hG _ mw_776) dX1_lower_47 ?_
            refine lv_ldiv hx hb dX1_lower_50 (by decide) ?_
            refine p_put (D := (dC, dI)) (ci := 1) (v := .long (vbelow / (2 : Int64))) (ty := .long) (C := RX1) (T := TX1) (N := 5) 1 fX1_1 hx hb hG inlX1 tyX1 tyX1_ok nmX1 hown hK.1 hP hD hS 0 rfl rfl (by decide) (hG _ mw_83) rfl (by decide +kernel) rfl rfl (Nat.le_of_ble_eq_true rfl) dX1_lower_51 (fun H locs hP hD hS => ?_)
            have hP : va_P (dC, dI) classes [(q_this, .inr (1, [.long (vabove / (2 : Int64)), .long (vbelow / (2 : Int64)), .ref q_now, .ref q_then, .ref q_trial]))] H := hP
            have hD : va_D A [(q_this, .inr (1, [.long (vabove / (2 : Int64)), .long (vbelow / (2 : Int64)), .ref q_now, .ref q_then, .ref q_trial]))] := hD
            refine lv_iinc (v := (x1 + (1 : Int32))) (lv' := [(1, .int (x1 + (1 : Int32))), (0, .ref q_this)]) hx hb dX1_lower_54 hl (k := 1) rfl rfl (by decide) rfl (fun ls hl => ?_)
            refine lv_goto (tgt := 2) hx hb dX1_lower_57 (by decide) ?_
            exact ih (x1 + (1 : Int32)) (vabove / (2 : Int64)) (vbelow / (2 : Int64)) res2 (hnext _ (osi hf).symm) _ _ ls hP hD hS (lv_sub hl [1, 0] rfl) KR
  refine lv_iconst (v := (0 : Int32)) hx hb dX1_lower_0 (by decide) ?_
  refine lv_istore_n (lv' := [(1, .int (0 : Int32)), (0, .ref q_this)]) hx hb dX1_lower_1 rfl hl (by decide) rfl (fun ls hl => ?_)
  obtain ⟨e4, hp4, hf⟩ := ob hf
  exact hL2 N (0 : Int32) vabove vbelow e4 hp4 _ _ ls hP hD hS (lv_sub hl [1, 0] rfl) (fun q9 h9 => by subst h9; exact osi hf)
def f_X1_luckOf (x0 : Int32) (x1 : Int32) : Option (Int32) := (if x0 = (-1 : Int32) then some (0 : Int32) else some (x1 <<< (x0 &&& 31)))
def w_X1_luckOf (cI cJ cB : ClassId) : va_W := []
set_option maxHeartbeats 4000000 in
set_option maxRecDepth 100000 in
theorem c_X1_luckOf (l : Launch) (dC : Nat → ClassId) (dI : Nat → Nat → Nat) (cI cJ cB : ClassId) (x0 : Int32) (x1 : Int32) {r : Int32} (hf : f_X1_luckOf x0 x1 = some r) : Met l yX1_luckOf (Cond.code yX1_luckOf cX1_luckOf 2 (some .int) :: wsL_law) (kR 0) (va_Pc [.int x0, .int x1] (pR (dC, dI) cI cJ cB (w_X1_luckOf cI cJ cB ))) (qRi r) 0 0 (fun _ => False) := by
  refine k_ro (cc := cX1_luckOf) (n := 2) (ret := (some .int)) (by decide) (Nat.le_of_ble_eq_true rfl) ?_
  intro p e s m args below meth c ls hx hb hr hml hts hown hlocks hK hP hl
  have hP : va_P (dC, dI) classes [] s.heap := hP
  have hG : ∀ w ∈ wsL_law, w.before args s = true := fun w h => hts w (List.mem_cons_of_mem _ h)
  have hown : s.vm.findClass RX1 = some m.cls := hown
  have hl : lv_has ls 2 [(0, .int x0), (1, .int x1)] := hl
  unfold f_X1_luckOf at hf
  refine lv_iload_n hx hb dX1_luckOf_0 rfl (lv_at hl 0 rfl) ?_
  refine lv_iconst (v := (-1 : Int32)) hx hb dX1_luckOf_1 (by decide) ?_
  refine lv_icmp_ne (tgt := 9) hx hb dX1_luckOf_2 (by decide) (fun c1 => ?_) (fun c1 => ?_)
  · replace hf := oe hf c1
    refine lv_iload_n hx hb dX1_luckOf_9 rfl (lv_at hl 1 rfl) ?_
    refine lv_iload_n hx hb dX1_luckOf_10 rfl (lv_at hl 0 rfl) ?_
    refine lv_ishl hx hb dX1_luckOf_11 ?_
    have hf := osi hf
    exact x_iR hx hb hr hlocks hf dX1_luckOf_12
  · replace hf := ot hf c1
    refine lv_iconst (v := (0 : Int32)) hx hb dX1_luckOf_5 (by decide) ?_
    refine lv_goto (tgt := 12) hx hb dX1_luckOf_6 (by decide) ?_
    have hf := osi hf
    exact x_iR hx hb hr hlocks hf dX1_luckOf_12
def f_X1_share (vp1_digits : Nat → Int32) (x1 : Int32) (x2 : Int32) : Option (Int64) := (if x1 = (-1 : Int32) then some (((1 : Int32) - x2).toInt64) else (if x2 = (1 : Int32) then (if x1 < 0 ∨ 6 ≤ x1.toNatClampNeg then none else some ((vp1_digits x1.toNatClampNeg).toInt64)) else (if x1 < 0 ∨ 6 ≤ x1.toNatClampNeg then none else some (((4 : Int32) - (vp1_digits x1.toNatClampNeg)).toInt64))))
def w_X1_share (cI cJ cB : ClassId) (q_p1 q_p1_members q_p1_moves q_p1_digits q_p1_sizes q_p1_orders q_p1_above q_p1_below q_p1_struck q_p1_lots : Nat) (vp1_blocks : Int32) (vp1_digits : Nat → Int32) : va_W := [(q_p1, .inr (5, [.int vp1_blocks, .ref q_p1_members, .ref q_p1_moves, .ref q_p1_digits, .ref q_p1_sizes, .ref q_p1_orders, .ref q_p1_above, .ref q_p1_below, .ref q_p1_struck, .ref q_p1_lots])), (q_p1_digits, .inl (cI, 6, .inl vp1_digits))]
set_option maxHeartbeats 4000000 in
set_option maxRecDepth 100000 in
theorem c_X1_share (l : Launch) (dC : Nat → ClassId) (dI : Nat → Nat → Nat) (cI cJ cB : ClassId) (q_p1 q_p1_members q_p1_moves q_p1_digits q_p1_sizes q_p1_orders q_p1_above q_p1_below q_p1_struck q_p1_lots : Nat) (vp1_blocks : Int32) (vp1_digits : Nat → Int32) (x1 : Int32) (x2 : Int32) {r : Int64} (hf : f_X1_share vp1_digits x1 x2 = some r) : Met l yX1_share (Cond.code yX1_share cX1_share 3 (some .long) :: wsL_law) (kR 0) (va_Pc [.ref q_p1, .int x1, .int x2] (pR (dC, dI) cI cJ cB (w_X1_share cI cJ cB q_p1 q_p1_members q_p1_moves q_p1_digits q_p1_sizes q_p1_orders q_p1_above q_p1_below q_p1_struck q_p1_lots vp1_blocks vp1_digits))) (qRl r) 0 0 (fun _ => False) := by
  refine k_ro (cc := cX1_share) (n := 3) (ret := (some .long)) (by decide) (Nat.le_of_ble_eq_true rfl) ?_
  intro p e s m args below meth c ls hx hb hr hml hts hown hlocks hK hP hl
  have hP : va_P (dC, dI) classes [(q_p1, .inr (5, [.int vp1_blocks, .ref q_p1_members, .ref q_p1_moves, .ref q_p1_digits, .ref q_p1_sizes, .ref q_p1_orders, .ref q_p1_above, .ref q_p1_below, .ref q_p1_struck, .ref q_p1_lots])), (q_p1_digits, .inl (cI, 6, .inl vp1_digits))] s.heap := hP
  have hG : ∀ w ∈ wsL_law, w.before args s = true := fun w h => hts w (List.mem_cons_of_mem _ h)
  have hown : s.vm.findClass RX1 = some m.cls := hown
  have hl : lv_has ls 3 [(0, .ref q_p1), (1, .int x1), (2, .int x2)] := hl
  unfold f_X1_share at hf
  refine lv_iload_n hx hb dX1_share_0 rfl (lv_at hl 1 rfl) ?_
  refine lv_iconst (v := (-1 : Int32)) hx hb dX1_share_1 (by decide) ?_
  refine lv_icmp_ne (tgt := 10) hx hb dX1_share_2 (by decide) (fun c1 => ?_) (fun c1 => ?_)
  · replace hf := oe hf c1
    refine lv_iload_n hx hb dX1_share_10 rfl (lv_at hl 2 rfl) ?_
    refine lv_iconst (v := (1 : Int32)) hx hb dX1_share_11 (by decide) ?_
    refine lv_icmp_ne (tgt := 25) hx hb dX1_share_12 (by decide) (fun c2 => ?_) (fun c2 => ?_)
    · replace hf := oe hf c2
      refine lv_iconst (v := (4 : Int32)) hx hb dX1_share_25 (by decide) ?_
      refine lv_aload_n hx hb dX1_share_26 rfl (lv_at hl 0 rfl) ?_
      refine p_get (D := (dC, dI)) (ci := 5) (v := .ref q_p1_digits) (C := RX5) (T := TX5) (N := 10) 3 fX5_3 hx hb hG inlX5 hown hK.1 hP 0 rfl rfl (by decide) (hG _ mw_759) rfl dX1_share_27 ?_
      refine lv_iload_n hx hb dX1_share_30 rfl (lv_at hl 1 rfl) ?_
      obtain ⟨g3, hf⟩ := og hf
      refine va_iald hx hb hK.1 hP 1 0 rfl rfl g3 dX1_share_31 ?_
      refine lv_isub hx hb dX1_share_32 ?_
      refine lv_i2l hx hb dX1_share_33 rfl ?_
      have hf := osi hf
      exact x_lR hx hb hr hlocks hf dX1_share_34
    · replace hf := ot hf c2
      refine lv_aload_n hx hb dX1_share_15 rfl (lv_at hl 0 rfl) ?_
      refine p_get (D := (dC, dI)) (ci := 5) (v := .ref q_p1_digits) (C := RX5) (T := TX5) (N := 10) 3 fX5_3 hx hb hG inlX5 hown hK.1 hP 0 rfl rfl (by decide) (hG _ mw_759) rfl dX1_share_16 ?_
      refine lv_iload_n hx hb dX1_share_19 rfl (lv_at hl 1 rfl) ?_
      obtain ⟨g4, hf⟩ := og hf
      refine va_iald hx hb hK.1 hP 1 0 rfl rfl g4 dX1_share_20 ?_
      refine lv_i2l hx hb dX1_share_21 rfl ?_
      refine lv_goto (tgt := 34) hx hb dX1_share_22 (by decide) ?_
      have hf := osi hf
      exact x_lR hx hb hr hlocks hf dX1_share_34
  · replace hf := ot hf c1
    refine lv_iconst (v := (1 : Int32)) hx hb dX1_share_5 (by decide) ?_
    refine lv_iload_n hx hb dX1_share_6 rfl (lv_at hl 2 rfl) ?_
    refine lv_isub hx hb dX1_share_7 ?_
    refine lv_i2l hx hb dX1_share_8 rfl ?_
    have hf := osi hf
    exact x_lR hx hb hr hlocks hf dX1_share_9
