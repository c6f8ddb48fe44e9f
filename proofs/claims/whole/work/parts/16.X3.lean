theorem gl_X3_24 {R : Room} {s : State} {args : Array Value} {k : Cond} (ht : ∀ w ∈ k :: wsL_law, w.before args s = true) (hR : (kR 0).frames + 1 ≤ R.frames ∧ 8 + (4 + 11) + (kR 0).locals ≤ R.locals) : CallB R s args RX3 24 yJ7_fill_53178 cJ7_fill_53178 4 none (Cond.code yJ7_fill_53178 cJ7_fill_53178 4 none :: wsL_law) (kR 0) 0 0 2 ∧ (Cond.static yJ7_fill_53178).before args s = true := va_cwS 2 ht (gS mw_65 mw_717 mw_63 mw_64) rfl rfl rfl (by decide +kernel) hR
def f_X3_empty (N : Nat) (nslots : Nat) (vslots : Nat → Int32) : Option (Int32 × (Nat → Int32)) := ((f_J7_fill_53178 N nslots vslots (0 : Int32)).bind (fun u1 => some ((0 : Int32), u1)))
def w_X3_empty (cI cJ cB : ClassId) (q_this q_states q_weights q_slots : Nat) (vsize : Int32) (nslots : Nat) (vslots : Nat → Int32) : va_W := [(q_this, .inr (3, [.int vsize, .ref q_states, .ref q_weights, .ref q_slots])), (q_slots, .inl (cI, nslots, .inl vslots))]
set_option maxHeartbeats 4000000 in
set_option maxRecDepth 100000 in
theorem c_X3_empty (l : Launch) (dC : Nat → ClassId) (dI : Nat → Nat → Nat) (cI cJ cB : ClassId) (q_this q_states q_weights q_slots : Nat) (vsize : Int32) (nslots : Nat) (vslots : Nat → Int32) (sz : Nat) {N : Nat} {r : Int32 × (Nat → Int32)} (hf : f_X3_empty N nslots vslots = some r) : Met l yX3_empty (Cond.code yX3_empty cX3_empty 1 none :: wsL_law) (kR 1) (va_Pc [.ref q_this] (pW (dC, dI) cI cJ cB (w_X3_empty cI cJ cB q_this q_states q_weights q_slots vsize nslots vslots) sz)) (qWv (fun w => w = (w_X3_empty cI cJ cB q_this q_states q_weights q_slots r.1 nslots r.2)) (dC, dI) (va_A (w_X3_empty cI cJ cB q_this q_states q_weights q_slots vsize nslots vslots) sz)) 0 0 (va_A (w_X3_empty cI cJ cB q_this q_states q_weights q_slots vsize nslots vslots) sz) := by
  refine k_wr (Qc := fun A => (qWv (fun w => w = (w_X3_empty cI cJ cB q_this q_states q_weights q_slots r.1 nslots r.2)) (dC, dI) A)) (cc := cX3_empty) (n := 1) (ret := none) (by decide) (Nat.le_of_ble_eq_true rfl) ?_
  intro p e s m args below meth c ls A hx hb hr hml hts hown hlocks hnm hA hK hP hD hS hl
  have hD : va_D A [(q_this, .inr (3, [.int vsize, .ref q_states, .ref q_weights, .ref q_slots])), (q_slots, .inl (cI, nslots, .inl vslots))] := hD
  have hP : va_P (dC, dI) classes [(q_this, .inr (3, [.int vsize, .ref q_states, .ref q_weights, .ref q_slots])), (q_slots, .inl (cI, nslots, .inl vslots))] s.heap := hP
  have hG : ∀ w ∈ wsL_law, w.before args s = true := fun w h => hts w (List.mem_cons_of_mem _ h)
  have hown : s.vm.findClass RX3 = some m.cls := hown
  have hl : lv_has ls 1 [(0, .ref q_this)] := hl
  unfold f_X3_empty at hf
  refine lv_aload_n hx hb dX3_empty_0 rfl (lv_at hl 0 rfl) ?_
  refine lv_iconst (v := (0 : Int32)) hx hb dX3_empty_1 (by decide) ?_
  refine p_put (D := (dC, dI)) (ci := 3) (v := .int (0 : Int32)) (ty := .int) (C := RX3) (T := TX3) (N := 4) 0 fX3_0 hx hb hG inlX3 tyX3 tyX3_ok nmX3 hown hK.1 hP hD hS 0 rfl rfl (by decide) (hG _ mw_94) rfl (by decide +kernel) rfl rfl (Nat.le_of_ble_eq_true rfl) dX3_empty_2 (fun H locs hP hD hS => ?_)
  have hP : va_P (dC, dI) classes [(q_this, .inr (3, [.int (0 : Int32), .ref q_states, .ref q_weights, .ref q_slots])), (q_slots, .inl (cI, nslots, .inl vslots))] H := hP
  have hD : va_D A [(q_this, .inr (3, [.int (0 : Int32), .ref q_states, .ref q_weights, .ref q_slots])), (q_slots, .inl (cI, nslots, .inl vslots))] := hD
  refine lv_aload_n hx hb dX3_empty_5 rfl (lv_at hl 0 rfl) ?_
  refine p_get (D := (dC, dI)) (ci := 3) (v := .ref q_slots) (C := RX3) (T := TX3) (N := 4) 3 fX3_3 hx hb hG inlX3 hown hK.1 hP 0 rfl rfl (by decide) (hG _ mw_98) rfl dX3_empty_6 ?_
  refine lv_iconst (v := (0 : Int32)) hx hb dX3_empty_9 (by decide) ?_
  obtain ⟨u1, hu1, hf⟩ := ob hf
  refine k_SWv (As := [.ref q_slots, .int (0 : Int32)]) (rest := []) (wr := [(q_this, .inr (3, [.int (0 : Int32), .ref q_states, .ref q_weights, .ref q_slots]))]) ⟨hx, hb, hml, hown, hts⟩ hK hP hD hS hA [1] [0] rfl rfl (by decide) (by decide) (by decide) (c_J7_fill_53178 l dC dI cI cJ cB q_slots nslots vslots (0 : Int32) _ hu1) (gl_X3_24 hts ⟨(Nat.le_of_ble_eq_true rfl), (Nat.le_of_ble_eq_true rfl)⟩) rfl hl.1 rfl (Nat.le_of_ble_eq_true rfl) dX3_empty_10 ⟨(Nat.le_of_ble_eq_true rfl), (Nat.le_of_ble_eq_true rfl)⟩ (fun w H locs hE hP hD hS => ?_)
  subst hE
  have hP : va_P (dC, dI) classes [(q_this, .inr (3, [.int (0 : Int32), .ref q_states, .ref q_weights, .ref q_slots])), (q_slots, .inl (cI, nslots, .inl u1))] H := hP
  have hD : va_D A [(q_this, .inr (3, [.int (0 : Int32), .ref q_states, .ref q_weights, .ref q_slots])), (q_slots, .inl (cI, nslots, .inl u1))] := hD
  have hf := osi hf
  exact x_vW hx hb hr hlocks hP hD hS (by have h9 := congrArg (fun z : Int32 × (Nat → Int32) => (w_X3_empty cI cJ cB q_this q_states q_weights q_slots z.1 nslots z.2)) hf; exact h9) dX3_empty_13
def f_X3_slotOf_B20 (nstates : Nat) (vstates : Nat → Int32) (nslots : Nat) (vslots : Nat → Int32) (x1 : Int32) (x2 : Int32) (x3 : Int32) (x4 : Int32) : Option ((Int32 × Int32) ⊕ (Int32)) := (if x2 < x4 then some (.inr x3) else (if x3 < 0 ∨ nslots ≤ x3.toNatClampNeg then none else (if (vslots x3.toNatClampNeg) = 0 then some (.inr x3) else (if ((vslots x3.toNatClampNeg) - (1 : Int32)) < 0 ∨ nstates ≤ ((vslots x3.toNatClampNeg) - (1 : Int32)).toNatClampNeg then none else (if (vstates ((vslots x3.toNatClampNeg) - (1 : Int32)).toNatClampNeg) = x1 then some (.inr x3) else some (.inl (((x3 + (1 : Int32)) &&& x2), (x4 + (1 : Int32)))))))))
def f_X3_slotOf (N : Nat) (nstates : Nat) (vstates : Nat → Int32) (nslots : Nat) (vslots : Nat → Int32) (x1 : Int32) : Option (Int32) := ((lp (fun s => f_X3_slotOf_B20 nstates vstates nslots vslots x1 ((Int32.ofNat nslots) - (1 : Int32)) s.1 s.2) N (((((x1 * (40503 : Int32)).toUInt32 >>> ((4 : Int32).toUInt32 &&& Int32.toUInt32 31)).toInt32) &&& ((Int32.ofNat nslots) - (1 : Int32))), (0 : Int32))).bind (fun e6 => some e6))
def w_X3_slotOf (cI cJ cB : ClassId) (q_this q_states q_weights q_slots : Nat) (vsize : Int32) (nstates : Nat) (vstates : Nat → Int32) (nslots : Nat) (vslots : Nat → Int32) : va_W := [(q_this, .inr (3, [.int vsize, .ref q_states, .ref q_weights, .ref q_slots])), (q_states, .inl (cI, nstates, .inl vstates)), (q_slots, .inl (cI, nslots, .inl vslots))]
set_option maxHeartbeats 4000000 in
set_option maxRecDepth 100000 in
theorem c_X3_slotOf (l : Launch) (dC : Nat → ClassId) (dI : Nat → Nat → Nat) (cI cJ cB : ClassId) (q_this q_states q_weights q_slots : Nat) (vsize : Int32) (nstates : Nat) (vstates : Nat → Int32) (nslots : Nat) (vslots : Nat → Int32) (x1 : Int32) {N : Nat} {r : Int32} (hf : f_X3_slotOf N nstates vstates nslots vslots x1 = some r) : Met l yX3_slotOf (Cond.code yX3_slotOf cX3_slotOf 5 (some .int) :: wsL_law) (kR 0) (va_Pc [.ref q_this, .int x1] (pR (dC, dI) cI cJ cB (w_X3_slotOf cI cJ cB q_this q_states q_weights q_slots vsize nstates vstates nslots vslots))) (qRi r) 0 0 (fun _ => False) := by
  refine k_ro (cc := cX3_slotOf) (n := 5) (ret := (some .int)) (by decide) (Nat.le_of_ble_eq_true rfl) ?_
  intro p e s m args below meth c ls hx hb hr hml hts hown hlocks hK hP hl
  have hP : va_P (dC, dI) classes [(q_this, .inr (3, [.int vsize, .ref q_states, .ref q_weights, .ref q_slots])), (q_states, .inl (cI, nstates, .inl vstates)), (q_slots, .inl (cI, nslots, .inl vslots))] s.heap := hP
  have hG : ∀ w ∈ wsL_law, w.before args s = true := fun w h => hts w (List.mem_cons_of_mem _ h)
  have hown : s.vm.findClass RX3 = some m.cls := hown
  have hl : lv_has ls 5 [(0, .ref q_this), (1, .int x1)] := hl
  unfold f_X3_slotOf at hf
  have hL20 : ∀ (n : Nat) (x2 : Int32) (x3 : Int32) (x4 : Int32) (res20 : Int32), lp (fun s => f_X3_slotOf_B20 nstates vstates nslots vslots x1 x2 s.1 s.2) n (x3, x4) = some res20 → ∀ (ls : Array Slot), lv_has ls 5 [(0, .ref q_this), (1, .int x1), (2, .int x2), (3, .int x3), (4, .int x4)] → (∀ q9 : Int32, res20 = q9 → q9 = r) → W p l e (kR 0) s m args below meth c s.heap [] 0 0 (MQ below (qRi r) args s 0 0 (fun _ => False)) (F0 m 20 ls []) := by
    intro n
    induction n with
    | zero => intro x2 x3 x4 res20 h9; exact (lp_zero h9).elim
    | succ n ih =>
      intro x2 x3 x4 res20 h9 ls hl KR
      obtain ⟨o20, hf, hnext, hexit⟩ := lp_succ h9
      have hf : f_X3_slotOf_B20 nstates vstates nslots vslots x1 x2 x3 x4 = some o20 := hf
      unfold f_X3_slotOf_B20 at hf
      refine lv_iload hx hb dX3_slotOf_20 (lv_at hl 4 rfl) ?_
      refine lv_iload_n hx hb dX3_slotOf_22 rfl (lv_at hl 2 rfl) ?_
      refine lv_icmp_gt (tgt := 66) hx hb dX3_slotOf_23 (by decide) (fun c1 => ?_) (fun c1 => ?_)
      · replace hf := ot hf c1
        refine lv_iload_n hx hb dX3_slotOf_66 rfl (lv_at hl 3 rfl) ?_
        have hf := KR _ (hexit _ (osi hf).symm).symm
        exact x_iR hx hb hr hlocks hf dX3_slotOf_67
      · replace hf := oe hf c1
        refine lv_aload_n hx hb dX3_slotOf_26 rfl (lv_at hl 0 rfl) ?_
        refine p_get (D := (dC, dI)) (ci := 3) (v := .ref q_slots) (C := RX3) (T := TX3) (N := 4) 3 fX3_3 hx hb hG inlX3 hown hK.1 hP 0 rfl rfl (by decide) (hG _ mw_98) rfl dX3_slotOf_27 ?_
        refine lv_iload_n hx hb dX3_slotOf_30 rfl (lv_at hl 3 rfl) ?_
        obtain ⟨g2, hf⟩ := og hf
        refine va_iald hx hb hK.1 hP 2 0 rfl rfl g2 dX3_slotOf_31 ?_
        refine lv_if_eq (tgt := 66) hx hb dX3_slotOf_32 (by decide) (fun c3 => ?_) (fun c3 => ?_)
        · replace hf := ot hf c3
          refine lv_iload_n hx hb dX3_slotOf_66 rfl (lv_at hl 3 rfl) ?_
          have hf := KR _ (hexit _ (osi hf).symm).symm
          exact x_iR hx hb hr hlocks hf dX3_slotOf_67
        · replace hf := oe hf c3
          refine lv_aload_n hx hb dX3_slotOf_35 rfl (lv_at hl 0 rfl) ?_
          refine p_get (D := (dC, dI)) (ci := 3) (v := .ref q_states) (C := RX3) (T := TX3) (N := 4) 1 fX3_1 hx hb hG inlX3 hown hK.1 hP 0 rfl rfl (by decide) (hG _ mw_95) rfl dX3_slotOf_36 ?_
          refine lv_aload_n hx hb dX3_slotOf_39 rfl (lv_at hl 0 rfl) ?_
          refine p_get (D := (dC, dI)) (ci := 3) (v := .ref q_slots) (C := RX3) (T := TX3) (N := 4) 3 fX3_3 hx hb hG inlX3 hown hK.1 hP 0 rfl rfl (by decide) (hG _ mw_98) rfl dX3_slotOf_40 ?_
          refine lv_iload_n hx hb dX3_slotOf_43 rfl (lv_at hl 3 rfl) ?_
          refine va_iald hx hb hK.1 hP 2 0 rfl rfl g2 dX3_slotOf_44 ?_
          refine lv_iconst (v := (1 : Int32)) hx hb dX3_slotOf_45 (by decide) ?_
          refine lv_isub hx hb dX3_slotOf_46 ?_
          obtain ⟨g4, hf⟩ := og hf
          refine va_iald hx hb hK.1 hP 1 0 rfl rfl g4 dX3_slotOf_47 ?_
          refine lv_iload_n hx hb dX3_slotOf_48 rfl (lv_at hl 1 rfl) ?_
          refine lv_icmp_ne (tgt := 54) hx hb dX3_slotOf_49 (by decide) (fun c5 => ?_) (fun c5 => ?_)
          · replace hf := oe hf c5
            refine lv_iload_n hx hb dX3_slotOf_54 rfl (lv_at hl 3 rfl) ?_
            refine lv_iconst (v := (1 : Int32)) hx hb dX3_slotOf_55 (by decide) ?_
            refine lv_iadd hx hb dX3_slotOf_56 ?_
            refine lv_iload_n hx hb dX3_slotOf_57 rfl (lv_at hl 2 rfl) ?_
            refine lv_iand hx hb dX3_slotOf_58 ?_
            refine lv_istore_n (lv' := [(3, .int ((x3 + (1 : Int32)) &&& x2)), (0, .ref q_this), (1, .int x1), (2, .int x2), (4, .int x4)]) hx hb dX3_slotOf_59 rfl hl (by decide) rfl (fun ls hl => ?_)
            refine lv_iinc (v := (x4 + (1 : Int32))) (lv' := [(4, .int (x4 + (1 : Int32))), (3, .int ((x3 + (1 : Int32)) &&& x2)), (0, .ref q_this), (1, .int x1), (2, .int x2)]) hx hb dX3_slotOf_60 hl (k := 4) rfl rfl (by decide) rfl (fun ls hl => ?_)
            refine lv_goto (tgt := 20) hx hb dX3_slotOf_63 (by decide) ?_
            exact ih x2 ((x3 + (1 : Int32)) &&& x2) (x4 + (1 : Int32)) res20 (hnext _ (osi hf).symm) ls (lv_sub hl [2, 3, 4, 1, 0] rfl) KR
          · replace hf := ot hf c5
            refine lv_iload_n hx hb dX3_slotOf_52 rfl (lv_at hl 3 rfl) ?_
            have hf := KR _ (hexit _ (osi hf).symm).symm
            exact x_iR hx hb hr hlocks hf dX3_slotOf_53
  refine lv_aload_n hx hb dX3_slotOf_0 rfl (lv_at hl 0 rfl) ?_
  refine p_get (D := (dC, dI)) (ci := 3) (v := .ref q_slots) (C := RX3) (T := TX3) (N := 4) 3 fX3_3 hx hb hG inlX3 hown hK.1 hP 0 rfl rfl (by decide) (hG _ mw_98) rfl dX3_slotOf_1 ?_
  refine va_alen (v := (Int32.ofNat nslots)) hx hb hK.1 hP 2 0 rfl rfl rfl dX3_slotOf_4 ?_
  refine lv_iconst (v := (1 : Int32)) hx hb dX3_slotOf_5 (by decide) ?_
  refine lv_isub hx hb dX3_slotOf_6 ?_
  refine lv_istore_n (lv' := [(2, .int ((Int32.ofNat nslots) - (1 : Int32))), (0, .ref q_this), (1, .int x1)]) hx hb dX3_slotOf_7 rfl hl (by decide) rfl (fun ls hl => ?_)
  refine lv_iload_n hx hb dX3_slotOf_8 rfl (lv_at hl 2 rfl) ?_
  refine lv_ldc (v := (40503 : Int32)) hx hb hown (hG _ mw_727) dX3_slotOf_9 ?_
  refine lv_imul hx hb dX3_slotOf_11 ?_
  refine lv_iconst (v := (4 : Int32)) hx hb dX3_slotOf_12 (by decide) ?_
  refine lv_iushr hx hb dX3_slotOf_13 rfl ?_
  refine lv_iload_n hx hb dX3_slotOf_14 rfl (lv_at hl 0 rfl) ?_
  refine lv_iand hx hb dX3_slotOf_15 ?_
  refine lv_istore_n (lv' := [(3, .int ((((x1 * (40503 : Int32)).toUInt32 >>> ((4 : Int32).toUInt32 &&& Int32.toUInt32 31)).toInt32) &&& ((Int32.ofNat nslots) - (1 : Int32)))), (2, .int ((Int32.ofNat nslots) - (1 : Int32))), (0, .ref q_this), (1, .int x1)]) hx hb dX3_slotOf_16 rfl hl (by decide) rfl (fun ls hl => ?_)
  refine lv_iconst (v := (0 : Int32)) hx hb dX3_slotOf_17 (by decide) ?_
  refine lv_istore (lv' := [(4, .int (0 : Int32)), (3, .int ((((x1 * (40503 : Int32)).toUInt32 >>> ((4 : Int32).toUInt32 &&& Int32.toUInt32 31)).toInt32) &&& ((Int32.ofNat nslots) - (1 : Int32)))), (2, .int ((Int32.ofNat nslots) - (1 : Int32))), (0, .ref q_this), (1, .int x1)]) hx hb dX3_slotOf_18 hl (by decide) rfl (fun ls hl => ?_)
  obtain ⟨e6, hp6, hf⟩ := ob hf
  exact hL20 N ((Int32.ofNat nslots) - (1 : Int32)) ((((x1 * (40503 : Int32)).toUInt32 >>> ((4 : Int32).toUInt32 &&& Int32.toUInt32 31)).toInt32) &&& ((Int32.ofNat nslots) - (1 : Int32))) (0 : Int32) e6 hp6 ls (lv_sub hl [3, 4, 2, 1, 0] rfl) (fun q9 h9 => by subst h9; exact osi hf)
