theorem gl_X5_59 {R : Room} {s : State} {args : Array Value} {k : Cond} (ht : ∀ w ∈ k :: wsL_law, w.before args s = true) (hR : (kR 0).frames + 1 ≤ R.frames ∧ 8 + (1 + 11) + (kR 0).locals ≤ R.locals) : CallW R s args RX5 RX5 59 yX5_allBlocks cX5_allBlocks 1 (some .int) (Cond.code yX5_allBlocks cX5_allBlocks 1 (some .int) :: wsL_law) (kR 0) 0 0 0 := cwV 0 ht (gV mw_361 mw_358 mw_359 mw_360 mw_19) rfl rfl rfl (by decide +kernel) hR
theorem gl_X5_63 {R : Room} {s : State} {args : Array Value} {k : Cond} (ht : ∀ w ∈ k :: wsL_law, w.before args s = true) (hR : (kR 0).frames + 1 ≤ R.frames ∧ 8 + (4 + 11) + (kR 0).locals ≤ R.locals) : CallW R s args RX5 RX5 63 yX5_membersOf cX5_membersOf 4 (some .int) (Cond.code yX5_membersOf cX5_membersOf 4 (some .int) :: wsL_law) (kR 0) 0 0 1 := cwV 1 ht (gV mw_365 mw_362 mw_363 mw_364 mw_19) rfl rfl rfl (by decide +kernel) hR
theorem gl_X5_71 {R : Room} {s : State} {args : Array Value} {k : Cond} (ht : ∀ w ∈ k :: wsL_law, w.before args s = true) (hN : nestOK s) (hR : (kR 0).frames + 1 ≤ R.frames ∧ 8 + (1 + 11) + (kR 0).locals ≤ R.locals) : va_CN R s args RX5 71 yX6_isDay "SmokeHall" cX6_isDay 1 (some .boolean) (Cond.code yX6_isDay cX6_isDay 1 (some .boolean) :: wsL_law) (kR 0) 0 0 1 ∧ (Cond.static yX6_isDay).before args s = true ∧ True := ⟨va_cnB 1 ht (gC mw_329) rfl rfl rfl (hN _ (by simp [nestW, yX6_isDay, RX5, RX6])) (ht _ (List.mem_cons_of_mem _ mw_2)) (by decide +kernel) hR, ht _ (List.mem_cons_of_mem _ mw_328), trivial⟩
theorem gl_X5_80 {R : Room} {s : State} {args : Array Value} {k : Cond} (ht : ∀ w ∈ k :: wsL_law, w.before args s = true) (hR : (kR 1).frames + 1 ≤ R.frames ∧ 8 + (1 + 11) + (kR 1).locals ≤ R.locals) : CallW R s args RX5 RX5 80 yX5_allMembers cX5_allMembers 1 (some .int) (Cond.code yX5_allMembers cX5_allMembers 1 (some .int) :: wsL_law) (kR 1) 0 0 0 := cwV 0 ht (gV mw_357 mw_354 mw_355 mw_356 mw_19) rfl rfl rfl (by decide +kernel) hR
theorem gl_X5_67 {R : Room} {s : State} {args : Array Value} {k : Cond} (ht : ∀ w ∈ k :: wsL_law, w.before args s = true) (hR : (kR 0).frames + 1 ≤ R.frames ∧ 8 + (5 + 11) + (kR 0).locals ≤ R.locals) : CallW R s args RX5 RX5 67 yX5_place cX5_place 5 (some .int) (Cond.code yX5_place cX5_place 5 (some .int) :: wsL_law) (kR 0) 0 0 2 := cwV 2 ht (gV mw_225 mw_805 mw_223 mw_224 mw_19) rfl rfl rfl (by decide +kernel) hR
theorem gl_X5_55 {R : Room} {s : State} {args : Array Value} {k : Cond} (ht : ∀ w ∈ k :: wsL_law, w.before args s = true) (hR : (kR 1).frames + 1 ≤ R.frames ∧ 8 + (2 + 11) + (kR 1).locals ≤ R.locals) : CallW R s args RX5 RX5 55 yX5_takeBlocks cX5_takeBlocks 2 none (Cond.code yX5_takeBlocks cX5_takeBlocks 2 none :: wsL_law) (kR 1) 0 0 1 := cwV 1 ht (gV mw_233 mw_657 mw_231 mw_232 mw_19) rfl rfl rfl (by decide +kernel) hR
def f_X5_place_B7 (vsizes : Nat → Int32) (vorders : Nat → Int32) (x1 : Int32) (x2 : Int32) (x3 : Int32) (x4 : Int32) : Option ((Int32) ⊕ (Int32)) := (if x1 < 0 ∨ 6 ≤ x1.toNatClampNeg then none else (if (vsizes x1.toNatClampNeg) ≤ x4 then some (.inr (-1 : Int32)) else (if (x3 + x4) < 0 ∨ 30 ≤ (x3 + x4).toNatClampNeg then none else (if (vorders (x3 + x4).toNatClampNeg) = x2 then some (.inr x4) else some (.inl (x4 + (1 : Int32)))))))
def f_X5_place (N : Nat) (vsizes : Nat → Int32) (vorders : Nat → Int32) (x1 : Int32) (x2 : Int32) : Option (Int32) := ((lp (fun s => f_X5_place_B7 vsizes vorders x1 x2 (x1 * (5 : Int32)) s) N (0 : Int32)).bind (fun e5 => some e5))
def w_X5_place (cI cJ cB : ClassId) (q_this q_members q_moves q_digits q_sizes q_orders q_above q_below q_struck q_lots : Nat) (vblocks : Int32) (vsizes : Nat → Int32) (vorders : Nat → Int32) : va_W := [(q_this, .inr (5, [.int vblocks, .ref q_members, .ref q_moves, .ref q_digits, .ref q_sizes, .ref q_orders, .ref q_above, .ref q_below, .ref q_struck, .ref q_lots])), (q_sizes, .inl (cI, 6, .inl vsizes)), (q_orders, .inl (cI, 30, .inl vorders))]
set_option maxHeartbeats 4000000 in
set_option maxRecDepth 100000 in
theorem c_X5_place (l : Launch) (dC : Nat → ClassId) (dI : Nat → Nat → Nat) (cI cJ cB : ClassId) (q_this q_members q_moves q_digits q_sizes q_orders q_above q_below q_struck q_lots : Nat) (vblocks : Int32) (vsizes : Nat → Int32) (vorders : Nat → Int32) (x1 : Int32) (x2 : Int32) {N : Nat} {r : Int32} (hf : f_X5_place N vsizes vorders x1 x2 = some r) : Met l yX5_place (Cond.code yX5_place cX5_place 5 (some .int) :: wsL_law) (kR 0) (va_Pc [.ref q_this, .int x1, .int x2] (pR (dC, dI) cI cJ cB (w_X5_place cI cJ cB q_this q_members q_moves q_digits q_sizes q_orders q_above q_below q_struck q_lots vblocks vsizes vorders))) (qRi r) 0 0 (fun _ => False) := by
  refine k_ro (cc := cX5_place) (n := 5) (ret := (some .int)) (by decide) (Nat.le_of_ble_eq_true rfl) ?_
  intro p e s m args below meth c ls hx hb hr hml hts hown hlocks hK hP hl
  have hP : va_P (dC, dI) classes [(q_this, .inr (5, [.int vblocks, .ref q_members, .ref q_moves, .ref q_digits, .ref q_sizes, .ref q_orders, .ref q_above, .ref q_below, .ref q_struck, .ref q_lots])), (q_sizes, .inl (cI, 6, .inl vsizes)), (q_orders, .inl (cI, 30, .inl vorders))] s.heap := hP
  have hG : ∀ w ∈ wsL_law, w.before args s = true := fun w h => hts w (List.mem_cons_of_mem _ h)
  have hown : s.vm.findClass RX5 = some m.cls := hown
  have hl : lv_has ls 5 [(0, .ref q_this), (1, .int x1), (2, .int x2)] := hl
  unfold f_X5_place at hf
  have hL7 : ∀ (n : Nat) (x3 : Int32) (x4 : Int32) (res7 : Int32), lp (fun s => f_X5_place_B7 vsizes vorders x1 x2 x3 s) n x4 = some res7 → ∀ (ls : Array Slot), lv_has ls 5 [(0, .ref q_this), (1, .int x1), (2, .int x2), (3, .int x3), (4, .int x4)] → (∀ q9 : Int32, res7 = q9 → q9 = r) → W p l e (kR 0) s m args below meth c s.heap [] 0 0 (MQ below (qRi r) args s 0 0 (fun _ => False)) (F0 m 7 ls []) := by
    intro n
    induction n with
    | zero => intro x3 x4 res7 h9; exact (lp_zero h9).elim
    | succ n ih =>
      intro x3 x4 res7 h9 ls hl KR
      obtain ⟨o7, hf, hnext, hexit⟩ := lp_succ h9
      have hf : f_X5_place_B7 vsizes vorders x1 x2 x3 x4 = some o7 := hf
      unfold f_X5_place_B7 at hf
      refine lv_iload hx hb dX5_place_7 (lv_at hl 4 rfl) ?_
      refine lv_aload_n hx hb dX5_place_9 rfl (lv_at hl 0 rfl) ?_
      refine p_get (D := (dC, dI)) (ci := 5) (v := .ref q_sizes) (C := RX5) (T := TX5) (N := 10) 4 fX5_4 hx hb hG inlX5 hown hK.1 hP 0 rfl rfl (by decide) (hG _ mw_56) rfl dX5_place_10 ?_
      refine lv_iload_n hx hb dX5_place_13 rfl (lv_at hl 1 rfl) ?_
      obtain ⟨g1, hf⟩ := og hf
      refine va_iald hx hb hK.1 hP 1 0 rfl rfl g1 dX5_place_14 ?_
      refine lv_icmp_ge (tgt := 40) hx hb dX5_place_15 (by decide) (fun c2 => ?_) (fun c2 => ?_)
      · replace hf := ot hf c2
        refine lv_iconst (v := (-1 : Int32)) hx hb dX5_place_40 (by decide) ?_
        have hf := KR _ (hexit _ (osi hf).symm).symm
        exact x_iR hx hb hr hlocks hf dX5_place_41
      · replace hf := oe hf c2
        refine lv_aload_n hx hb dX5_place_18 rfl (lv_at hl 0 rfl) ?_
        refine p_get (D := (dC, dI)) (ci := 5) (v := .ref q_orders) (C := RX5) (T := TX5) (N := 10) 5 fX5_5 hx hb hG inlX5 hown hK.1 hP 0 rfl rfl (by decide) (hG _ mw_57) rfl dX5_place_19 ?_
        refine lv_iload_n hx hb dX5_place_22 rfl (lv_at hl 3 rfl) ?_
        refine lv_iload hx hb dX5_place_23 (lv_at hl 4 rfl) ?_
        refine lv_iadd hx hb dX5_place_25 ?_
        obtain ⟨g3, hf⟩ := og hf
        refine va_iald hx hb hK.1 hP 2 0 rfl rfl g3 dX5_place_26 ?_
        refine lv_iload_n hx hb dX5_place_27 rfl (lv_at hl 2 rfl) ?_
        refine lv_icmp_ne (tgt := 34) hx hb dX5_place_28 (by decide) (fun c4 => ?_) (fun c4 => ?_)
        · replace hf := oe hf c4
          refine lv_iinc (v := (x4 + (1 : Int32))) (lv' := [(4, .int (x4 + (1 : Int32))), (0, .ref q_this), (1, .int x1), (2, .int x2), (3, .int x3)]) hx hb dX5_place_34 hl (k := 4) rfl rfl (by decide) rfl (fun ls hl => ?_)
          refine lv_goto (tgt := 7) hx hb dX5_place_37 (by decide) ?_
          exact ih x3 (x4 + (1 : Int32)) res7 (hnext _ (osi hf).symm) ls (lv_sub hl [1, 2, 3, 4, 0] rfl) KR
        · replace hf := ot hf c4
          refine lv_iload hx hb dX5_place_31 (lv_at hl 4 rfl) ?_
          have hf := KR _ (hexit _ (osi hf).symm).symm
          exact x_iR hx hb hr hlocks hf dX5_place_33
  refine lv_iload_n hx hb dX5_place_0 rfl (lv_at hl 1 rfl) ?_
  refine lv_iconst (v := (5 : Int32)) hx hb dX5_place_1 (by decide) ?_
  refine lv_imul hx hb dX5_place_2 ?_
  refine lv_istore_n (lv' := [(3, .int (x1 * (5 : Int32))), (0, .ref q_this), (1, .int x1), (2, .int x2)]) hx hb dX5_place_3 rfl hl (by decide) rfl (fun ls hl => ?_)
  refine lv_iconst (v := (0 : Int32)) hx hb dX5_place_4 (by decide) ?_
  refine lv_istore (lv' := [(4, .int (0 : Int32)), (3, .int (x1 * (5 : Int32))), (0, .ref q_this), (1, .int x1), (2, .int x2)]) hx hb dX5_place_5 hl (by decide) rfl (fun ls hl => ?_)
  obtain ⟨e5, hp5, hf⟩ := ob hf
  exact hL7 N (x1 * (5 : Int32)) (0 : Int32) e5 hp5 ls (lv_sub hl [2, 3, 4, 1, 0] rfl) (fun q9 h9 => by subst h9; exact osi hf)
def f_X5_firstAlive_B8 (vsizes : Nat → Int32) (vorders : Nat → Int32) (x1 : Int32) (x3 : Int32) (x4 : Int32) (x5 : Int32) : Option ((Int32) ⊕ ((Int32) ⊕ (Int32))) := (if x1 < 0 ∨ 6 ≤ x1.toNatClampNeg then none else (if (vsizes x1.toNatClampNeg) ≤ x5 then some (.inr (.inr (-1 : Int32))) else (if (x4 + x5) < 0 ∨ 30 ≤ (x4 + x5).toNatClampNeg then none else (if ((x3 >>> ((vorders (x4 + x5).toNatClampNeg) &&& 31)) &&& (1 : Int32)) = (1 : Int32) then some (.inr (.inl x5)) else some (.inl (x5 + (1 : Int32)))))))
def f_X5_firstAlive (N : Nat) (vsizes : Nat → Int32) (vorders : Nat → Int32) (x1 : Int32) (x2 : Int32) (x3 : Int32) : Option (Int32) := ((lp (fun s => f_X5_firstAlive_B8 vsizes vorders x1 x3 (x1 * (5 : Int32)) s) N x2).bind (Sum.elim (fun t5 => (if ((x1 * (5 : Int32)) + t5) < 0 ∨ 30 ≤ ((x1 * (5 : Int32)) + t5).toNatClampNeg then none else some (vorders ((x1 * (5 : Int32)) + t5).toNatClampNeg))) (fun q9 => some q9)))
def w_X5_firstAlive (cI cJ cB : ClassId) (q_this q_members q_moves q_digits q_sizes q_orders q_above q_below q_struck q_lots : Nat) (vblocks : Int32) (vsizes : Nat → Int32) (vorders : Nat → Int32) : va_W := [(q_this, .inr (5, [.int vblocks, .ref q_members, .ref q_moves, .ref q_digits, .ref q_sizes, .ref q_orders, .ref q_above, .ref q_below, .ref q_struck, .ref q_lots])), (q_sizes, .inl (cI, 6, .inl vsizes)), (q_orders, .inl (cI, 30, .inl vorders))]
set_option maxHeartbeats 4000000 in
set_option maxRecDepth 100000 in
theorem c_X5_firstAlive (l : Launch) (dC : Nat → ClassId) (dI : Nat → Nat → Nat) (cI cJ cB : ClassId) (q_this q_members q_moves q_digits q_sizes q_orders q_above q_below q_struck q_lots : Nat) (vblocks : Int32) (vsizes : Nat → Int32) (vorders : Nat → Int32) (x1 : Int32) (x2 : Int32) (x3 : Int32) {N : Nat} {r : Int32} (hf : f_X5_firstAlive N vsizes vorders x1 x2 x3 = some r) : Met l yX5_firstAlive (Cond.code yX5_firstAlive cX5_firstAlive 6 (some .int) :: wsL_law) (kR 0) (va_Pc [.ref q_this, .int x1, .int x2, .int x3] (pR (dC, dI) cI cJ cB (w_X5_firstAlive cI cJ cB q_this q_members q_moves q_digits q_sizes q_orders q_above q_below q_struck q_lots vblocks vsizes vorders))) (qRi r) 0 0 (fun _ => False) := by
  refine k_ro (cc := cX5_firstAlive) (n := 6) (ret := (some .int)) (by decide) (Nat.le_of_ble_eq_true rfl) ?_
  intro p e s m args below meth c ls hx hb hr hml hts hown hlocks hK hP hl
  have hP : va_P (dC, dI) classes [(q_this, .inr (5, [.int vblocks, .ref q_members, .ref q_moves, .ref q_digits, .ref q_sizes, .ref q_orders, .ref q_above, .ref q_below, .ref q_struck, .ref q_lots])), (q_sizes, .inl (cI, 6, .inl vsizes)), (q_orders, .inl (cI, 30, .inl vorders))] s.heap := hP
  have hG : ∀ w ∈ wsL_law, w.before args s = true := fun w h => hts w (List.mem_cons_of_mem _ h)
  have hown : s.vm.findClass RX5 = some m.cls := hown
  have hl : lv_has ls 6 [(0, .ref q_this), (1, .int x1), (2, .int x2), (3, .int x3)] := hl
  unfold f_X5_firstAlive at hf
  have hL8 : ∀ (n : Nat) (x4 : Int32) (x5 : Int32) (res8 : (Int32) ⊕ (Int32)), lp (fun s => f_X5_firstAlive_B8 vsizes vorders x1 x3 x4 s) n x5 = some res8 → ∀ (ls : Array Slot), lv_has ls 6 [(0, .ref q_this), (1, .int x1), (3, .int x3), (4, .int x4), (5, .int x5)] → (∀ s9 : Int32, res8 = .inl s9 → ∀ (ls : Array Slot), lv_has ls 6 [(0, .ref q_this), (4, .int x4), (5, .int s9)] → W p l e (kR 0) s m args below meth c s.heap [] 0 0 (MQ below (qRi r) args s 0 0 (fun _ => False)) (F0 m 37 ls [])) → (∀ q9 : Int32, res8 = .inr q9 → q9 = r) → W p l e (kR 0) s m args below meth c s.heap [] 0 0 (MQ below (qRi r) args s 0 0 (fun _ => False)) (F0 m 8 ls []) := by
    intro n
    induction n with
    | zero => intro x4 x5 res8 h9; exact (lp_zero h9).elim
    | succ n ih =>
      intro x4 x5 res8 h9 ls hl K KR
      obtain ⟨o8, hf, hnext, hexit⟩ := lp_succ h9
      have hf : f_X5_firstAlive_B8 vsizes vorders x1 x3 x4 x5 = some o8 := hf
      unfold f_X5_firstAlive_B8 at hf
      refine lv_iload hx hb dX5_firstAlive_8 (lv_at hl 4 rfl) ?_
      refine lv_aload_n hx hb dX5_firstAlive_10 rfl (lv_at hl 0 rfl) ?_
      refine p_get (D := (dC, dI)) (ci := 5) (v := .ref q_sizes) (C := RX5) (T := TX5) (N := 10) 4 fX5_4 hx hb hG inlX5 hown hK.1 hP 0 rfl rfl (by decide) (hG _ mw_56) rfl dX5_firstAlive_11 ?_
      refine lv_iload_n hx hb dX5_firstAlive_14 rfl (lv_at hl 1 rfl) ?_
      obtain ⟨g1, hf⟩ := og hf
      refine va_iald hx hb hK.1 hP 1 0 rfl rfl g1 dX5_firstAlive_15 ?_
      refine lv_icmp_ge (tgt := 54) hx hb dX5_firstAlive_16 (by decide) (fun c2 => ?_) (fun c2 => ?_)
      · replace hf := ot hf c2
        refine lv_iconst (v := (-1 : Int32)) hx hb dX5_firstAlive_54 (by decide) ?_
        have hf := KR _ (hexit _ (osi hf).symm).symm
        exact x_iR hx hb hr hlocks hf dX5_firstAlive_55
      · replace hf := oe hf c2
        refine lv_iload_n hx hb dX5_firstAlive_19 rfl (lv_at hl 2 rfl) ?_
        refine lv_aload_n hx hb dX5_firstAlive_20 rfl (lv_at hl 0 rfl) ?_
        refine p_get (D := (dC, dI)) (ci := 5) (v := .ref q_orders) (C := RX5) (T := TX5) (N := 10) 5 fX5_5 hx hb hG inlX5 hown hK.1 hP 0 rfl rfl (by decide) (hG _ mw_57) rfl dX5_firstAlive_21 ?_
        refine lv_iload hx hb dX5_firstAlive_24 (lv_at hl 3 rfl) ?_
        refine lv_iload hx hb dX5_firstAlive_26 (lv_at hl 4 rfl) ?_
        refine lv_iadd hx hb dX5_firstAlive_28 ?_
        obtain ⟨g3, hf⟩ := og hf
        refine va_iald hx hb hK.1 hP 2 0 rfl rfl g3 dX5_firstAlive_29 ?_
        refine lv_ishr hx hb dX5_firstAlive_30 ?_
        refine lv_iconst (v := (1 : Int32)) hx hb dX5_firstAlive_31 (by decide) ?_
        refine lv_iand hx hb dX5_firstAlive_32 ?_
        refine lv_iconst (v := (1 : Int32)) hx hb dX5_firstAlive_33 (by decide) ?_
        refine lv_icmp_ne (tgt := 48) hx hb dX5_firstAlive_34 (by decide) (fun c4 => ?_) (fun c4 => ?_)
        · replace hf := oe hf c4
          refine lv_iinc (v := (x5 + (1 : Int32))) (lv' := [(5, .int (x5 + (1 : Int32))), (0, .ref q_this), (1, .int x1), (3, .int x3), (4, .int x4)]) hx hb dX5_firstAlive_48 hl (k := 4) rfl rfl (by decide) rfl (fun ls hl => ?_)
          refine lv_goto (tgt := 8) hx hb dX5_firstAlive_51 (by decide) ?_
          exact ih x4 (x5 + (1 : Int32)) res8 (hnext _ (osi hf).symm) ls (lv_sub hl [1, 2, 3, 4, 0] rfl) K KR
        · replace hf := ot hf c4
          exact K _ (hexit _ (osi hf).symm).symm  ls (lv_sub hl [0, 3, 4] rfl)
  refine lv_iload_n hx hb dX5_firstAlive_0 rfl (lv_at hl 1 rfl) ?_
  refine lv_iconst (v := (5 : Int32)) hx hb dX5_firstAlive_1 (by decide) ?_
  refine lv_imul hx hb dX5_firstAlive_2 ?_
  refine lv_istore (lv' := [(4, .int (x1 * (5 : Int32))), (0, .ref q_this), (1, .int x1), (2, .int x2), (3, .int x3)]) hx hb dX5_firstAlive_3 hl (by decide) rfl (fun ls hl => ?_)
  refine lv_iload_n hx hb dX5_firstAlive_5 rfl (lv_at hl 3 rfl) ?_
  refine lv_istore (lv' := [(5, .int x2), (4, .int (x1 * (5 : Int32))), (0, .ref q_this), (1, .int x1), (2, .int x2), (3, .int x3)]) hx hb dX5_firstAlive_6 hl (by decide) rfl (fun ls hl => ?_)
  obtain ⟨e5, hp5, hi5, hr5⟩ := oz hf
  refine hL8 N (x1 * (5 : Int32)) x2 e5 hp5 ls (lv_sub hl [2, 3, 5, 1, 0] rfl) (fun t5 et5  ls hl => ?_) (fun q9 h9 => osi (hr5 q9 h9))
  have hf := hi5 t5 et5
  have hl : lv_has ls 6 [(0, .ref q_this), (4, .int (x1 * (5 : Int32))), (5, .int t5)] := hl
  refine lv_aload_n hx hb dX5_firstAlive_37 rfl (lv_at hl 0 rfl) ?_
  refine p_get (D := (dC, dI)) (ci := 5) (v := .ref q_orders) (C := RX5) (T := TX5) (N := 10) 5 fX5_5 hx hb hG inlX5 hown hK.1 hP 0 rfl rfl (by decide) (hG _ mw_57) rfl dX5_firstAlive_38 ?_
  refine lv_iload hx hb dX5_firstAlive_41 (lv_at hl 1 rfl) ?_
  refine lv_iload hx hb dX5_firstAlive_43 (lv_at hl 2 rfl) ?_
  refine lv_iadd hx hb dX5_firstAlive_45 ?_
  obtain ⟨g6, hf⟩ := og hf
  refine va_iald hx hb hK.1 hP 2 0 rfl rfl g6 dX5_firstAlive_46 ?_
  have hf := osi hf
  exact x_iR hx hb hr hlocks hf dX5_firstAlive_47
def f_X5_namesAlive_L25 (x3 : Int32) (x2 : Int32) : Option ((Int32 × Int32) ⊕ (Int32)) := some (.inl (x2, (x3 + (1 : Int32))))
def f_X5_namesAlive_B4 (vstruck : Nat → Int32) (x1 : Int32) (x2 : Int32) (x3 : Int32) : Option ((Int32 × Int32) ⊕ (Int32)) := (if (5 : Int32) ≤ x3 then some (.inr x2) else (if x3 < 0 ∨ 5 ≤ x3.toNatClampNeg then none else (if (vstruck x3.toNatClampNeg) ≤ x1 then (f_X5_namesAlive_L25 x3 x2) else (f_X5_namesAlive_L25 x3 (x2 ||| ((1 : Int32) <<< (x3 &&& 31)))))))
def f_X5_namesAlive (N : Nat) (vstruck : Nat → Int32) (x1 : Int32) : Option (Int32) := ((lp (fun s => f_X5_namesAlive_B4 vstruck x1 s.1 s.2) N ((0 : Int32), (0 : Int32))).bind (fun e4 => some e4))
def w_X5_namesAlive (cI cJ cB : ClassId) (q_this q_members q_moves q_digits q_sizes q_orders q_above q_below q_struck q_lots : Nat) (vblocks : Int32) (vstruck : Nat → Int32) : va_W := [(q_this, .inr (5, [.int vblocks, .ref q_members, .ref q_moves, .ref q_digits, .ref q_sizes, .ref q_orders, .ref q_above, .ref q_below, .ref q_struck, .ref q_lots])), (q_struck, .inl (cI, 5, .inl vstruck))]
set_option maxHeartbeats 4000000 in
set_option maxRecDepth 100000 in
theorem c_X5_namesAlive (l : Launch) (dC : Nat → ClassId) (dI : Nat → Nat → Nat) (cI cJ cB : ClassId) (q_this q_members q_moves q_digits q_sizes q_orders q_above q_below q_struck q_lots : Nat) (vblocks : Int32) (vstruck : Nat → Int32) (x1 : Int32) {N : Nat} {r : Int32} (hf : f_X5_namesAlive N vstruck x1 = some r) : Met l yX5_namesAlive (Cond.code yX5_namesAlive cX5_namesAlive 4 (some .int) :: wsL_law) (kR 0) (va_Pc [.ref q_this, .int x1] (pR (dC, dI) cI cJ cB (w_X5_namesAlive cI cJ cB q_this q_members q_moves q_digits q_sizes q_orders q_above q_below q_struck q_lots vblocks vstruck))) (qRi r) 0 0 (fun _ => False) := by
  refine k_ro (cc := cX5_namesAlive) (n := 4) (ret := (some .int)) (by decide) (Nat.le_of_ble_eq_true rfl) ?_
  intro p e s m args below meth c ls hx hb hr hml hts hown hlocks hK hP hl
  have hP : va_P (dC, dI) classes [(q_this, .inr (5, [.int vblocks, .ref q_members, .ref q_moves, .ref q_digits, .ref q_sizes, .ref q_orders, .ref q_above, .ref q_below, .ref q_struck, .ref q_lots])), (q_struck, .inl (cI, 5, .inl vstruck))] s.heap := hP
  have hG : ∀ w ∈ wsL_law, w.before args s = true := fun w h => hts w (List.mem_cons_of_mem _ h)
  have hown : s.vm.findClass RX5 = some m.cls := hown
  have hl : lv_has ls 4 [(0, .ref q_this), (1, .int x1)] := hl
  unfold f_X5_namesAlive at hf
  have hL4 : ∀ (n : Nat) (x2 : Int32) (x3 : Int32) (res4 : Int32), lp (fun s => f_X5_namesAlive_B4 vstruck x1 s.1 s.2) n (x2, x3) = some res4 → ∀ (ls : Array Slot), lv_has ls 4 [(0, .ref q_this), (1, .int x1), (2, .int x2), (3, .int x3)] → (∀ q9 : Int32, res4 = q9 → q9 = r) → W p l e (kR 0) s m args below meth c s.heap [] 0 0 (MQ below (qRi r) args s 0 0 (fun _ => False)) (F0 m 4 ls []) := by
    intro n
    induction n with
    | zero => intro x2 x3 res4 h9; exact (lp_zero h9).elim
    | succ n ih =>
      intro x2 x3 res4 h9 ls hl KR
      obtain ⟨o4, hf, hnext, hexit⟩ := lp_succ h9
      have hf : f_X5_namesAlive_B4 vstruck x1 x2 x3 = some o4 := hf
      unfold f_X5_namesAlive_B4 at hf
      have hJ25 : ∀ (x2 : Int32), f_X5_namesAlive_L25 x3 x2 = some o4 → ∀ (ls : Array Slot), lv_has ls 4 [(0, .ref q_this), (1, .int x1), (2, .int x2), (3, .int x3)] → W p l e (kR 0) s m args below meth c s.heap [] 0 0 (MQ below (qRi r) args s 0 0 (fun _ => False)) (F0 m 25 ls []) := by
        intro x2 hf ls hl
        unfold f_X5_namesAlive_L25 at hf
        refine lv_iinc (v := (x3 + (1 : Int32))) (lv' := [(3, .int (x3 + (1 : Int32))), (0, .ref q_this), (1, .int x1), (2, .int x2)]) hx hb dX5_namesAlive_25 hl (k := 3) rfl rfl (by decide) rfl (fun ls hl => ?_)
        refine lv_goto (tgt := 4) hx hb dX5_namesAlive_28 (by decide) ?_
        exact ih x2 (x3 + (1 : Int32)) res4 (hnext _ (osi hf).symm) ls (lv_sub hl [1, 2, 3, 0] rfl) KR
      refine lv_iload_n hx hb dX5_namesAlive_4 rfl (lv_at hl 3 rfl) ?_
      refine lv_iconst (v := (5 : Int32)) hx hb dX5_namesAlive_5 (by decide) ?_
      refine lv_icmp_ge (tgt := 31) hx hb dX5_namesAlive_6 (by decide) (fun c1 => ?_) (fun c1 => ?_)
      · replace hf := ot hf c1
        refine lv_iload_n hx hb dX5_namesAlive_31 rfl (lv_at hl 2 rfl) ?_
        have hf := KR _ (hexit _ (osi hf).symm).symm
        exact x_iR hx hb hr hlocks hf dX5_namesAlive_32
      · replace hf := oe hf c1
        refine lv_iload_n hx hb dX5_namesAlive_9 rfl (lv_at hl 1 rfl) ?_
        refine lv_aload_n hx hb dX5_namesAlive_10 rfl (lv_at hl 0 rfl) ?_
        refine p_get (D := (dC, dI)) (ci := 5) (v := .ref q_struck) (C := RX5) (T := TX5) (N := 10) 8 fX5_8 hx hb hG inlX5 hown hK.1 hP 0 rfl rfl (by decide) (hG _ mw_60) rfl dX5_namesAlive_11 ?_
        refine lv_iload_n hx hb dX5_namesAlive_14 rfl (lv_at hl 3 rfl) ?_
        obtain ⟨g2, hf⟩ := og hf
        refine va_iald hx hb hK.1 hP 1 0 rfl rfl g2 dX5_namesAlive_15 ?_
        refine lv_icmp_ge (tgt := 25) hx hb dX5_namesAlive_16 (by decide) (fun c3 => ?_) (fun c3 => ?_)
        · replace hf := ot hf c3
          exact hJ25 x2 hf ls (lv_sub hl [0, 1, 2, 3] rfl)
        · replace hf := oe hf c3
          refine lv_iload_n hx hb dX5_namesAlive_19 rfl (lv_at hl 2 rfl) ?_
          refine lv_iconst (v := (1 : Int32)) hx hb dX5_namesAlive_20 (by decide) ?_
          refine lv_iload_n hx hb dX5_namesAlive_21 rfl (lv_at hl 3 rfl) ?_
          refine lv_ishl hx hb dX5_namesAlive_22 ?_
          refine lv_ior hx hb dX5_namesAlive_23 ?_
          refine lv_istore_n (lv' := [(2, .int (x2 ||| ((1 : Int32) <<< (x3 &&& 31)))), (0, .ref q_this), (1, .int x1), (3, .int x3)]) hx hb dX5_namesAlive_24 rfl hl (by decide) rfl (fun ls hl => ?_)
          exact hJ25 (x2 ||| ((1 : Int32) <<< (x3 &&& 31))) hf ls (lv_sub hl [1, 2, 0, 3] rfl)
  refine lv_iconst (v := (0 : Int32)) hx hb dX5_namesAlive_0 (by decide) ?_
  refine lv_istore_n (lv' := [(2, .int (0 : Int32)), (0, .ref q_this), (1, .int x1)]) hx hb dX5_namesAlive_1 rfl hl (by decide) rfl (fun ls hl => ?_)
  refine lv_iconst (v := (0 : Int32)) hx hb dX5_namesAlive_2 (by decide) ?_
  refine lv_istore_n (lv' := [(3, .int (0 : Int32)), (2, .int (0 : Int32)), (0, .ref q_this), (1, .int x1)]) hx hb dX5_namesAlive_3 rfl hl (by decide) rfl (fun ls hl => ?_)
  obtain ⟨e4, hp4, hf⟩ := ob hf
  exact hL4 N (0 : Int32) (0 : Int32) e4 hp4 ls (lv_sub hl [2, 3, 1, 0] rfl) (fun q9 h9 => by subst h9; exact osi hf)
def f_X5_allBlocks (vblocks : Int32) : Option (Int32) := some (((1 : Int32) <<< (vblocks &&& 31)) - (1 : Int32))
def w_X5_allBlocks (cI cJ cB : ClassId) (q_this q_members q_moves q_digits q_sizes q_orders q_above q_below q_struck q_lots : Nat) (vblocks : Int32) : va_W := [(q_this, .inr (5, [.int vblocks, .ref q_members, .ref q_moves, .ref q_digits, .ref q_sizes, .ref q_orders, .ref q_above, .ref q_below, .ref q_struck, .ref q_lots]))]
set_option maxHeartbeats 4000000 in
set_option maxRecDepth 100000 in
theorem c_X5_allBlocks (l : Launch) (dC : Nat → ClassId) (dI : Nat → Nat → Nat) (cI cJ cB : ClassId) (q_this q_members q_moves q_digits q_sizes q_orders q_above q_below q_struck q_lots : Nat) (vblocks : Int32) {r : Int32} (hf : f_X5_allBlocks vblocks = some r) : Met l yX5_allBlocks (Cond.code yX5_allBlocks cX5_allBlocks 1 (some .int) :: wsL_law) (kR 0) (va_Pc [.ref q_this] (pR (dC, dI) cI cJ cB (w_X5_allBlocks cI cJ cB q_this q_members q_moves q_digits q_sizes q_orders q_above q_below q_struck q_lots vblocks))) (qRi r) 0 0 (fun _ => False) := by
  refine k_ro (cc := cX5_allBlocks) (n := 1) (ret := (some .int)) (by decide) (Nat.le_of_ble_eq_true rfl) ?_
  intro p e s m args below meth c ls hx hb hr hml hts hown hlocks hK hP hl
  have hP : va_P (dC, dI) classes [(q_this, .inr (5, [.int vblocks, .ref q_members, .ref q_moves, .ref q_digits, .ref q_sizes, .ref q_orders, .ref q_above, .ref q_below, .ref q_struck, .ref q_lots]))] s.heap := hP
  have hG : ∀ w ∈ wsL_law, w.before args s = true := fun w h => hts w (List.mem_cons_of_mem _ h)
  have hown : s.vm.findClass RX5 = some m.cls := hown
  have hl : lv_has ls 1 [(0, .ref q_this)] := hl
  unfold f_X5_allBlocks at hf
  refine lv_iconst (v := (1 : Int32)) hx hb dX5_allBlocks_0 (by decide) ?_
  refine lv_aload_n hx hb dX5_allBlocks_1 rfl (lv_at hl 0 rfl) ?_
  refine p_get (D := (dC, dI)) (ci := 5) (v := .int vblocks) (C := RX5) (T := TX5) (N := 10) 0 fX5_0 hx hb hG inlX5 hown hK.1 hP 0 rfl rfl (by decide) (hG _ mw_52) rfl dX5_allBlocks_2 ?_
  refine lv_ishl hx hb dX5_allBlocks_5 ?_
  refine lv_iconst (v := (1 : Int32)) hx hb dX5_allBlocks_6 (by decide) ?_
  refine lv_isub hx hb dX5_allBlocks_7 ?_
  have hf := osi hf
  exact x_iR hx hb hr hlocks hf dX5_allBlocks_8
def f_X5_membersOf_L30 (x3 : Int32) (x2 : Int32) : Option ((Int32 × Int32) ⊕ (Int32)) := some (.inl (x2, (x3 + (1 : Int32))))
def f_X5_membersOf_B4 (vblocks : Int32) (vmembers : Nat → Int32) (x1 : Int32) (x2 : Int32) (x3 : Int32) : Option ((Int32 × Int32) ⊕ (Int32)) := (if vblocks ≤ x3 then some (.inr x2) else (if ((x1 >>> (x3 &&& 31)) &&& (1 : Int32)) = (1 : Int32) then (if x3 < 0 ∨ 6 ≤ x3.toNatClampNeg then none else (f_X5_membersOf_L30 x3 (x2 + (vmembers x3.toNatClampNeg)))) else (f_X5_membersOf_L30 x3 x2)))
def f_X5_membersOf (N : Nat) (vblocks : Int32) (vmembers : Nat → Int32) (x1 : Int32) : Option (Int32) := ((lp (fun s => f_X5_membersOf_B4 vblocks vmembers x1 s.1 s.2) N ((0 : Int32), (0 : Int32))).bind (fun e4 => some e4))
def w_X5_membersOf (cI cJ cB : ClassId) (q_this q_members q_moves q_digits q_sizes q_orders q_above q_below q_struck q_lots : Nat) (vblocks : Int32) (vmembers : Nat → Int32) : va_W := [(q_this, .inr (5, [.int vblocks, .ref q_members, .ref q_moves, .ref q_digits, .ref q_sizes, .ref q_orders, .ref q_above, .ref q_below, .ref q_struck, .ref q_lots])), (q_members, .inl (cI, 6, .inl vmembers))]
set_option maxHeartbeats 4000000 in
set_option maxRecDepth 100000 in
theorem c_X5_membersOf (l : Launch) (dC : Nat → ClassId) (dI : Nat → Nat → Nat) (cI cJ cB : ClassId) (q_this q_members q_moves q_digits q_sizes q_orders q_above q_below q_struck q_lots : Nat) (vblocks : Int32) (vmembers : Nat → Int32) (x1 : Int32) {N : Nat} {r : Int32} (hf : f_X5_membersOf N vblocks vmembers x1 = some r) : Met l yX5_membersOf (Cond.code yX5_membersOf cX5_membersOf 4 (some .int) :: wsL_law) (kR 0) (va_Pc [.ref q_this, .int x1] (pR (dC, dI) cI cJ cB (w_X5_membersOf cI cJ cB q_this q_members q_moves q_digits q_sizes q_orders q_above q_below q_struck q_lots vblocks vmembers))) (qRi r) 0 0 (fun _ => False) := by
  refine k_ro (cc := cX5_membersOf) (n := 4) (ret := (some .int)) (by decide) (Nat.le_of_ble_eq_true rfl) ?_
  intro p e s m args below meth c ls hx hb hr hml hts hown hlocks hK hP hl
  have hP : va_P (dC, dI) classes [(q_this, .inr (5, [.int vblocks, .ref q_members, .ref q_moves, .ref q_digits, .ref q_sizes, .ref q_orders, .ref q_above, .ref q_below, .ref q_struck, .ref q_lots])), (q_members, .inl (cI, 6, .inl vmembers))] s.heap := hP
  have hG : ∀ w ∈ wsL_law, w.before args s = true := fun w h => hts w (List.mem_cons_of_mem _ h)
  have hown : s.vm.findClass RX5 = some m.cls := hown
  have hl : lv_has ls 4 [(0, .ref q_this), (1, .int x1)] := hl
  unfold f_X5_membersOf at hf
  have hL4 : ∀ (n : Nat) (x2 : Int32) (x3 : Int32) (res4 : Int32), lp (fun s => f_X5_membersOf_B4 vblocks vmembers x1 s.1 s.2) n (x2, x3) = some res4 → ∀ (ls : Array Slot), lv_has ls 4 [(0, .ref q_this), (1, .int x1), (2, .int x2), (3, .int x3)] → (∀ q9 : Int32, res4 = q9 → q9 = r) → W p l e (kR 0) s m args below meth c s.heap [] 0 0 (MQ below (qRi r) args s 0 0 (fun _ => False)) (F0 m 4 ls []) := by
    intro n
    induction n with
    | zero => intro x2 x3 res4 h9; exact (lp_zero h9).elim
    | succ n ih =>
      intro x2 x3 res4 h9 ls hl KR
      obtain ⟨o4, hf, hnext, hexit⟩ := lp_succ h9
      have hf : f_X5_membersOf_B4 vblocks vmembers x1 x2 x3 = some o4 := hf
      unfold f_X5_membersOf_B4 at hf
      have hJ30 : ∀ (x2 : Int32), f_X5_membersOf_L30 x3 x2 = some o4 → ∀ (ls : Array Slot), lv_has ls 4 [(0, .ref q_this), (1, .int x1), (2, .int x2), (3, .int x3)] → W p l e (kR 0) s m args below meth c s.heap [] 0 0 (MQ below (qRi r) args s 0 0 (fun _ => False)) (F0 m 30 ls []) := by
        intro x2 hf ls hl
        unfold f_X5_membersOf_L30 at hf
        refine lv_iinc (v := (x3 + (1 : Int32))) (lv' := [(3, .int (x3 + (1 : Int32))), (0, .ref q_this), (1, .int x1), (2, .int x2)]) hx hb dX5_membersOf_30 hl (k := 3) rfl rfl (by decide) rfl (fun ls hl => ?_)
        refine lv_goto (tgt := 4) hx hb dX5_membersOf_33 (by decide) ?_
        exact ih x2 (x3 + (1 : Int32)) res4 (hnext _ (osi hf).symm) ls (lv_sub hl [1, 2, 3, 0] rfl) KR
      refine lv_iload_n hx hb dX5_membersOf_4 rfl (lv_at hl 3 rfl) ?_
      refine lv_aload_n hx hb dX5_membersOf_5 rfl (lv_at hl 0 rfl) ?_
      refine p_get (D := (dC, dI)) (ci := 5) (v := .int vblocks) (C := RX5) (T := TX5) (N := 10) 0 fX5_0 hx hb hG inlX5 hown hK.1 hP 0 rfl rfl (by decide) (hG _ mw_52) rfl dX5_membersOf_6 ?_
      refine lv_icmp_ge (tgt := 36) hx hb dX5_membersOf_9 (by decide) (fun c1 => ?_) (fun c1 => ?_)
      · replace hf := ot hf c1
        refine lv_iload_n hx hb dX5_membersOf_36 rfl (lv_at hl 2 rfl) ?_
        have hf := KR _ (hexit _ (osi hf).symm).symm
        exact x_iR hx hb hr hlocks hf dX5_membersOf_37
      · replace hf := oe hf c1
        refine lv_iload_n hx hb dX5_membersOf_12 rfl (lv_at hl 1 rfl) ?_
        refine lv_iload_n hx hb dX5_membersOf_13 rfl (lv_at hl 3 rfl) ?_
        refine lv_ishr hx hb dX5_membersOf_14 ?_
        refine lv_iconst (v := (1 : Int32)) hx hb dX5_membersOf_15 (by decide) ?_
        refine lv_iand hx hb dX5_membersOf_16 ?_
        refine lv_iconst (v := (1 : Int32)) hx hb dX5_membersOf_17 (by decide) ?_
        refine lv_icmp_ne (tgt := 30) hx hb dX5_membersOf_18 (by decide) (fun c2 => ?_) (fun c2 => ?_)
        · replace hf := oe hf c2
          exact hJ30 x2 hf ls (lv_sub hl [0, 1, 2, 3] rfl)
        · replace hf := ot hf c2
          refine lv_iload_n hx hb dX5_membersOf_21 rfl (lv_at hl 2 rfl) ?_
          refine lv_aload_n hx hb dX5_membersOf_22 rfl (lv_at hl 0 rfl) ?_
          refine p_get (D := (dC, dI)) (ci := 5) (v := .ref q_members) (C := RX5) (T := TX5) (N := 10) 1 fX5_1 hx hb hG inlX5 hown hK.1 hP 0 rfl rfl (by decide) (hG _ mw_53) rfl dX5_membersOf_23 ?_
          refine lv_iload_n hx hb dX5_membersOf_26 rfl (lv_at hl 3 rfl) ?_
          obtain ⟨g3, hf⟩ := og hf
          refine va_iald hx hb hK.1 hP 1 0 rfl rfl g3 dX5_membersOf_27 ?_
          refine lv_iadd hx hb dX5_membersOf_28 ?_
          refine lv_istore_n (lv' := [(2, .int (x2 + (vmembers x3.toNatClampNeg))), (0, .ref q_this), (1, .int x1), (3, .int x3)]) hx hb dX5_membersOf_29 rfl hl (by decide) rfl (fun ls hl => ?_)
          exact hJ30 (x2 + (vmembers x3.toNatClampNeg)) hf ls (lv_sub hl [1, 2, 0, 3] rfl)
  refine lv_iconst (v := (0 : Int32)) hx hb dX5_membersOf_0 (by decide) ?_
  refine lv_istore_n (lv' := [(2, .int (0 : Int32)), (0, .ref q_this), (1, .int x1)]) hx hb dX5_membersOf_1 rfl hl (by decide) rfl (fun ls hl => ?_)
  refine lv_iconst (v := (0 : Int32)) hx hb dX5_membersOf_2 (by decide) ?_
  refine lv_istore_n (lv' := [(3, .int (0 : Int32)), (2, .int (0 : Int32)), (0, .ref q_this), (1, .int x1)]) hx hb dX5_membersOf_3 rfl hl (by decide) rfl (fun ls hl => ?_)
  obtain ⟨e4, hp4, hf⟩ := ob hf
  exact hL4 N (0 : Int32) (0 : Int32) e4 hp4 ls (lv_sub hl [2, 3, 1, 0] rfl) (fun q9 h9 => by subst h9; exact osi hf)
def f_X5_allMembers (N : Nat) (vblocks : Int32) (vmembers : Nat → Int32) : Option (Int32) := ((f_X5_allBlocks vblocks).bind (fun u1 => ((f_X5_membersOf N vblocks vmembers u1).bind (fun u2 => some u2))))
def w_X5_allMembers (cI cJ cB : ClassId) (q_this q_members q_moves q_digits q_sizes q_orders q_above q_below q_struck q_lots : Nat) (vblocks : Int32) (vmembers : Nat → Int32) : va_W := [(q_this, .inr (5, [.int vblocks, .ref q_members, .ref q_moves, .ref q_digits, .ref q_sizes, .ref q_orders, .ref q_above, .ref q_below, .ref q_struck, .ref q_lots])), (q_members, .inl (cI, 6, .inl vmembers))]
set_option maxHeartbeats 4000000 in
set_option maxRecDepth 100000 in
theorem c_X5_allMembers (l : Launch) (dC : Nat → ClassId) (dI : Nat → Nat → Nat) (cI cJ cB : ClassId) (q_this q_members q_moves q_digits q_sizes q_orders q_above q_below q_struck q_lots : Nat) (vblocks : Int32) (vmembers : Nat → Int32) {N : Nat} {r : Int32} (hf : f_X5_allMembers N vblocks vmembers = some r) : Met l yX5_allMembers (Cond.code yX5_allMembers cX5_allMembers 1 (some .int) :: wsL_law) (kR 1) (va_Pc [.ref q_this] (pR (dC, dI) cI cJ cB (w_X5_allMembers cI cJ cB q_this q_members q_moves q_digits q_sizes q_orders q_above q_below q_struck q_lots vblocks vmembers))) (qRi r) 0 0 (fun _ => False) := by
  refine k_ro (cc := cX5_allMembers) (n := 1) (ret := (some .int)) (by decide) (Nat.le_of_ble_eq_true rfl) ?_
  intro p e s m args below meth c ls hx hb hr hml hts hown hlocks hK hP hl
  have hP : va_P (dC, dI) classes [(q_this, .inr (5, [.int vblocks, .ref q_members, .ref q_moves, .ref q_digits, .ref q_sizes, .ref q_orders, .ref q_above, .ref q_below, .ref q_struck, .ref q_lots])), (q_members, .inl (cI, 6, .inl vmembers))] s.heap := hP
  have hG : ∀ w ∈ wsL_law, w.before args s = true := fun w h => hts w (List.mem_cons_of_mem _ h)
  have hown : s.vm.findClass RX5 = some m.cls := hown
  have hl : lv_has ls 1 [(0, .ref q_this)] := hl
  unfold f_X5_allMembers at hf
  refine lv_aload_n hx hb dX5_allMembers_0 rfl (lv_at hl 0 rfl) ?_
  refine lv_aload_n hx hb dX5_allMembers_1 rfl (lv_at hl 0 rfl) ?_
  obtain ⟨u1, hu1, hf⟩ := ob hf
  refine k_Vi (As := []) (rest := [.ref q_this]) ⟨hx, hb, hml, hown, hts⟩ hK hP [0] rfl (c_X5_allBlocks l dC dI cI cJ cB q_this q_members q_moves q_digits q_sizes q_orders q_above q_below q_struck q_lots vblocks hu1) (gl_X5_59 hts ⟨(Nat.le_of_ble_eq_true rfl), (Nat.le_of_ble_eq_true rfl)⟩) 0 5 rfl rfl rfl rfl hl.1 rfl (Nat.le_of_ble_eq_true rfl) dX5_allMembers_2 ⟨Nat.zero_le _, Nat.zero_le _⟩ ?_
  obtain ⟨u2, hu2, hf⟩ := ob hf
  refine k_Vi (As := [.int u1]) (rest := []) ⟨hx, hb, hml, hown, hts⟩ hK hP [0, 1] rfl (c_X5_membersOf l dC dI cI cJ cB q_this q_members q_moves q_digits q_sizes q_orders q_above q_below q_struck q_lots vblocks vmembers u1 hu2) (gl_X5_63 hts ⟨(Nat.le_of_ble_eq_true rfl), (Nat.le_of_ble_eq_true rfl)⟩) 0 5 rfl rfl rfl rfl hl.1 rfl (Nat.le_of_ble_eq_true rfl) dX5_allMembers_5 ⟨Nat.zero_le _, Nat.zero_le _⟩ ?_
  have hf := osi hf
  exact x_iR hx hb hr hlocks hf dX5_allMembers_8
def f_X5_needed_L39 (N : Nat) (vblocks : Int32) (vmembers : Nat → Int32) (x2 : Int32) (z0 : Int32) : Option (Int32) := ((f_X5_allMembers N vblocks vmembers).bind (fun u1 => (if x2 = 0 then none else some ((((u1 * z0) + x2) - (1 : Int32)) / x2))))
def f_X5_needed_L21 (N : Nat) (vblocks : Int32) (vmembers : Nat → Int32) (vabove : Nat → Int32) (x1 : Int32) (z0 : Int32) : Option (Int32) := ((f_X6_isDay x1).bind (fun u3 => (if u3 = 0 then (f_X5_needed_L39 N vblocks vmembers z0 (1 : Int32)) else (if x1 < 0 ∨ 8 ≤ x1.toNatClampNeg then none else (f_X5_needed_L39 N vblocks vmembers z0 (vabove x1.toNatClampNeg))))))
def f_X5_needed (N : Nat) (vblocks : Int32) (vmembers : Nat → Int32) (vabove : Nat → Int32) (vbelow : Nat → Int32) (x1 : Int32) : Option (Int32) := ((f_X6_isDay x1).bind (fun u6 => (if u6 = 0 then (f_X5_needed_L21 N vblocks vmembers vabove x1 (1 : Int32)) else (if x1 < 0 ∨ 8 ≤ x1.toNatClampNeg then none else (f_X5_needed_L21 N vblocks vmembers vabove x1 (if (1 : Int32) < (vbelow x1.toNatClampNeg) then (vbelow x1.toNatClampNeg) else (1 : Int32)))))))
def w_X5_needed (cI cJ cB : ClassId) (q_this q_members q_moves q_digits q_sizes q_orders q_above q_below q_struck q_lots : Nat) (vblocks : Int32) (vmembers : Nat → Int32) (vabove : Nat → Int32) (vbelow : Nat → Int32) : va_W := [(q_this, .inr (5, [.int vblocks, .ref q_members, .ref q_moves, .ref q_digits, .ref q_sizes, .ref q_orders, .ref q_above, .ref q_below, .ref q_struck, .ref q_lots])), (q_members, .inl (cI, 6, .inl vmembers)), (q_above, .inl (cI, 8, .inl vabove)), (q_below, .inl (cI, 8, .inl vbelow))]
set_option maxHeartbeats 4000000 in
set_option maxRecDepth 100000 in
theorem c_X5_needed (l : Launch) (dC : Nat → ClassId) (dI : Nat → Nat → Nat) (cI cJ cB : ClassId) (q_this q_members q_moves q_digits q_sizes q_orders q_above q_below q_struck q_lots : Nat) (vblocks : Int32) (vmembers : Nat → Int32) (vabove : Nat → Int32) (vbelow : Nat → Int32) (x1 : Int32) {N : Nat} {r : Int32} (hf : f_X5_needed N vblocks vmembers vabove vbelow x1 = some r) : Met l yX5_needed (Cond.code yX5_needed cX5_needed 4 (some .int) :: wsL_law) (kR 2) (va_Pc [.ref q_this, .int x1] (pR (dC, dI) cI cJ cB (w_X5_needed cI cJ cB q_this q_members q_moves q_digits q_sizes q_orders q_above q_below q_struck q_lots vblocks vmembers vabove vbelow))) (qRi r) 0 0 (fun _ => False) := by
  refine k_ro (cc := cX5_needed) (n := 4) (ret := (some .int)) (by decide) (Nat.le_of_ble_eq_true rfl) ?_
  intro p e s m args below meth c ls hx hb hr hml hts hown hlocks hK hP hl
  have hP : va_P (dC, dI) classes [(q_this, .inr (5, [.int vblocks, .ref q_members, .ref q_moves, .ref q_digits, .ref q_sizes, .ref q_orders, .ref q_above, .ref q_below, .ref q_struck, .ref q_lots])), (q_members, .inl (cI, 6, .inl vmembers)), (q_above, .inl (cI, 8, .inl vabove)), (q_below, .inl (cI, 8, .inl vbelow))] s.heap := hP
  have hG : ∀ w ∈ wsL_law, w.before args s = true := fun w h => hts w (List.mem_cons_of_mem _ h)
  have hown : s.vm.findClass RX5 = some m.cls := hown
  have hl : lv_has ls 4 [(0, .ref q_this), (1, .int x1)] := hl
  unfold f_X5_needed at hf
  have hJ39 : ∀ (x2 : Int32) (z0 : Int32), f_X5_needed_L39 N vblocks vmembers x2 z0 = some r → ∀ (ls : Array Slot), lv_has ls 4 [(0, .ref q_this), (2, .int x2)] → W p l e (kR 2) s m args below meth c s.heap [] 0 0 (MQ below (qRi r) args s 0 0 (fun _ => False)) (F0 m 39 ls [.int z0]) := by
    intro x2 z0 hf ls hl
    unfold f_X5_needed_L39 at hf
    refine lv_istore_n (lv' := [(3, .int z0), (0, .ref q_this), (2, .int x2)]) hx hb dX5_needed_39 rfl hl (by decide) rfl (fun ls hl => ?_)
    refine lv_aload_n hx hb dX5_needed_40 rfl (lv_at hl 1 rfl) ?_
    obtain ⟨u1, hu1, hf⟩ := ob hf
    refine k_Vi (As := []) (rest := []) ⟨hx, hb, hml, hown, hts⟩ hK hP [0, 1] rfl (c_X5_allMembers l dC dI cI cJ cB q_this q_members q_moves q_digits q_sizes q_orders q_above q_below q_struck q_lots vblocks vmembers hu1) (gl_X5_80 hts ⟨(Nat.le_of_ble_eq_true rfl), (Nat.le_of_ble_eq_true rfl)⟩) 0 5 rfl rfl rfl rfl hl.1 rfl (Nat.le_of_ble_eq_true rfl) dX5_needed_41 ⟨Nat.zero_le _, Nat.zero_le _⟩ ?_
    refine lv_iload_n hx hb dX5_needed_44 rfl (lv_at hl 0 rfl) ?_
    refine lv_imul hx hb dX5_needed_45 ?_
    refine lv_iload_n hx hb dX5_needed_46 rfl (lv_at hl 2 rfl) ?_
    refine lv_iadd hx hb dX5_needed_47 ?_
    refine lv_iconst (v := (1 : Int32)) hx hb dX5_needed_48 (by decide) ?_
    refine lv_isub hx hb dX5_needed_49 ?_
    refine lv_iload_n hx hb dX5_needed_50 rfl (lv_at hl 2 rfl) ?_
    obtain ⟨g2, hf⟩ := og hf
    refine lv_idiv hx hb dX5_needed_51 g2 ?_
    have hf := osi hf
    exact x_iR hx hb hr hlocks hf dX5_needed_52
  have hJ21 : ∀ (z0 : Int32), f_X5_needed_L21 N vblocks vmembers vabove x1 z0 = some r → ∀ (ls : Array Slot), lv_has ls 4 [(0, .ref q_this), (1, .int x1)] → W p l e (kR 2) s m args below meth c s.heap [] 0 0 (MQ below (qRi r) args s 0 0 (fun _ => False)) (F0 m 21 ls [.int z0]) := by
    intro z0 hf ls hl
    unfold f_X5_needed_L21 at hf
    refine lv_istore_n (lv' := [(2, .int z0), (0, .ref q_this), (1, .int x1)]) hx hb dX5_needed_21 rfl hl (by decide) rfl (fun ls hl => ?_)
    refine lv_iload_n hx hb dX5_needed_22 rfl (lv_at hl 2 rfl) ?_
    obtain ⟨u3, hu3, hf⟩ := ob hf
    refine k_SNi (As := [.int x1]) (rest := []) ⟨hx, hb, hml, hown, hts⟩ hK hP [] rfl (c_X6_isDay l dC dI cI cJ cB x1 hu3) (gl_X5_71 hts hK.2 ⟨(Nat.le_of_ble_eq_true rfl), (Nat.le_of_ble_eq_true rfl)⟩) rfl hl.1 rfl (Nat.le_of_ble_eq_true rfl) dX5_needed_23 ⟨Nat.zero_le _, Nat.zero_le _⟩ ?_
    refine lv_if_eq (tgt := 38) hx hb dX5_needed_26 (by decide) (fun c4 => ?_) (fun c4 => ?_)
    · replace hf := ot hf c4
      refine lv_iconst (v := (1 : Int32)) hx hb dX5_needed_38 (by decide) ?_
      exact hJ39 z0 (1 : Int32) hf ls (lv_sub hl [1, 0] rfl)
    · replace hf := oe hf c4
      refine lv_aload_n hx hb dX5_needed_29 rfl (lv_at hl 1 rfl) ?_
      refine p_get (D := (dC, dI)) (ci := 5) (v := .ref q_above) (C := RX5) (T := TX5) (N := 10) 6 fX5_6 hx hb hG inlX5 hown hK.1 hP 0 rfl rfl (by decide) (hG _ mw_58) rfl dX5_needed_30 ?_
      refine lv_iload_n hx hb dX5_needed_33 rfl (lv_at hl 2 rfl) ?_
      obtain ⟨g5, hf⟩ := og hf
      refine va_iald hx hb hK.1 hP 2 0 rfl rfl g5 dX5_needed_34 ?_
      refine lv_goto (tgt := 39) hx hb dX5_needed_35 (by decide) ?_
      exact hJ39 z0 (vabove x1.toNatClampNeg) hf ls (lv_sub hl [1, 0] rfl)
  refine lv_iload_n hx hb dX5_needed_0 rfl (lv_at hl 1 rfl) ?_
  obtain ⟨u6, hu6, hf⟩ := ob hf
  refine k_SNi (As := [.int x1]) (rest := []) ⟨hx, hb, hml, hown, hts⟩ hK hP [] rfl (c_X6_isDay l dC dI cI cJ cB x1 hu6) (gl_X5_71 hts hK.2 ⟨(Nat.le_of_ble_eq_true rfl), (Nat.le_of_ble_eq_true rfl)⟩) rfl hl.1 rfl (Nat.le_of_ble_eq_true rfl) dX5_needed_1 ⟨Nat.zero_le _, Nat.zero_le _⟩ ?_
  refine lv_if_eq (tgt := 20) hx hb dX5_needed_4 (by decide) (fun c7 => ?_) (fun c7 => ?_)
  · replace hf := ot hf c7
    refine lv_iconst (v := (1 : Int32)) hx hb dX5_needed_20 (by decide) ?_
    exact hJ21 (1 : Int32) hf ls (lv_sub hl [0, 1] rfl)
  · replace hf := oe hf c7
    refine lv_iconst (v := (1 : Int32)) hx hb dX5_needed_7 (by decide) ?_
    refine lv_aload_n hx hb dX5_needed_8 rfl (lv_at hl 0 rfl) ?_
    refine p_get (D := (dC, dI)) (ci := 5) (v := .ref q_below) (C := RX5) (T := TX5) (N := 10) 7 fX5_7 hx hb hG inlX5 hown hK.1 hP 0 rfl rfl (by decide) (hG _ mw_59) rfl dX5_needed_9 ?_
    refine lv_iload_n hx hb dX5_needed_12 rfl (lv_at hl 1 rfl) ?_
    obtain ⟨g8, hf⟩ := og hf
    refine va_iald hx hb hK.1 hP 3 0 rfl rfl g8 dX5_needed_13 ?_
    refine va_mmax hx hb (hml.trans hl.1.symm) hown (hG _ mw_351) (hG _ mw_352) (hG _ mw_195) (hG _ mw_353) (Nat.le_of_ble_eq_true rfl) (Nat.le_of_ble_eq_true rfl) (Nat.zero_le _) (Nat.zero_le _) dX5_needed_14 ?_
    refine lv_goto (tgt := 21) hx hb dX5_needed_17 (by decide) ?_
    exact hJ21 (if (1 : Int32) < (vbelow x1.toNatClampNeg) then (vbelow x1.toNatClampNeg) else (1 : Int32)) hf ls (lv_sub hl [0, 1] rfl)
def f_X5_bearers_L28 (x3 : Int32) (x2 : Int32) : Option ((Int32 × Int32) ⊕ (Int32)) := some (.inl (x2, (x3 + (1 : Int32))))
def f_X5_bearers_B4 (N : Nat) (vblocks : Int32) (vsizes : Nat → Int32) (vorders : Nat → Int32) (x1 : Int32) (x2 : Int32) (x3 : Int32) : Option ((Int32 × Int32) ⊕ (Int32)) := (if vblocks ≤ x3 then some (.inr x2) else ((f_X5_place N vsizes vorders x3 x1).bind (fun u2 => (if u2 = (-1 : Int32) then (f_X5_bearers_L28 x3 x2) else (f_X5_bearers_L28 x3 (x2 ||| ((1 : Int32) <<< (x3 &&& 31))))))))
def f_X5_bearers (N : Nat) (vblocks : Int32) (vsizes : Nat → Int32) (vorders : Nat → Int32) (x1 : Int32) : Option (Int32) := ((lp (fun s => f_X5_bearers_B4 N vblocks vsizes vorders x1 s.1 s.2) N ((0 : Int32), (0 : Int32))).bind (fun e4 => some e4))
def w_X5_bearers (cI cJ cB : ClassId) (q_this q_members q_moves q_digits q_sizes q_orders q_above q_below q_struck q_lots : Nat) (vblocks : Int32) (vsizes : Nat → Int32) (vorders : Nat → Int32) : va_W := [(q_this, .inr (5, [.int vblocks, .ref q_members, .ref q_moves, .ref q_digits, .ref q_sizes, .ref q_orders, .ref q_above, .ref q_below, .ref q_struck, .ref q_lots])), (q_sizes, .inl (cI, 6, .inl vsizes)), (q_orders, .inl (cI, 30, .inl vorders))]
set_option maxHeartbeats 4000000 in
set_option maxRecDepth 100000 in
theorem c_X5_bearers (l : Launch) (dC : Nat → ClassId) (dI : Nat → Nat → Nat) (cI cJ cB : ClassId) (q_this q_members q_moves q_digits q_sizes q_orders q_above q_below q_struck q_lots : Nat) (vblocks : Int32) (vsizes : Nat → Int32) (vorders : Nat → Int32) (x1 : Int32) {N : Nat} {r : Int32} (hf : f_X5_bearers N vblocks vsizes vorders x1 = some r) : Met l yX5_bearers (Cond.code yX5_bearers cX5_bearers 4 (some .int) :: wsL_law) (kR 1) (va_Pc [.ref q_this, .int x1] (pR (dC, dI) cI cJ cB (w_X5_bearers cI cJ cB q_this q_members q_moves q_digits q_sizes q_orders q_above q_below q_struck q_lots vblocks vsizes vorders))) (qRi r) 0 0 (fun _ => False) := by
  refine k_ro (cc := cX5_bearers) (n := 4) (ret := (some .int)) (by decide) (Nat.le_of_ble_eq_true rfl) ?_
  intro p e s m args below meth c ls hx hb hr hml hts hown hlocks hK hP hl
  have hP : va_P (dC, dI) classes [(q_this, .inr (5, [.int vblocks, .ref q_members, .ref q_moves, .ref q_digits, .ref q_sizes, .ref q_orders, .ref q_above, .ref q_below, .ref q_struck, .ref q_lots])), (q_sizes, .inl (cI, 6, .inl vsizes)), (q_orders, .inl (cI, 30, .inl vorders))] s.heap := hP
  have hG : ∀ w ∈ wsL_law, w.before args s = true := fun w h => hts w (List.mem_cons_of_mem _ h)
  have hown : s.vm.findClass RX5 = some m.cls := hown
  have hl : lv_has ls 4 [(0, .ref q_this), (1, .int x1)] := hl
  unfold f_X5_bearers at hf
  have hL4 : ∀ (n : Nat) (x2 : Int32) (x3 : Int32) (res4 : Int32), lp (fun s => f_X5_bearers_B4 N vblocks vsizes vorders x1 s.1 s.2) n (x2, x3) = some res4 → ∀ (ls : Array Slot), lv_has ls 4 [(0, .ref q_this), (1, .int x1), (2, .int x2), (3, .int x3)] → (∀ q9 : Int32, res4 = q9 → q9 = r) → W p l e (kR 1) s m args below meth c s.heap [] 0 0 (MQ below (qRi r) args s 0 0 (fun _ => False)) (F0 m 4 ls []) := by
    intro n
    induction n with
    | zero => intro x2 x3 res4 h9; exact (lp_zero h9).elim
    | succ n ih =>
      intro x2 x3 res4 h9 ls hl KR
      obtain ⟨o4, hf, hnext, hexit⟩ := lp_succ h9
      have hf : f_X5_bearers_B4 N vblocks vsizes vorders x1 x2 x3 = some o4 := hf
      unfold f_X5_bearers_B4 at hf
      have hJ28 : ∀ (x2 : Int32), f_X5_bearers_L28 x3 x2 = some o4 → ∀ (ls : Array Slot), lv_has ls 4 [(0, .ref q_this), (1, .int x1), (2, .int x2), (3, .int x3)] → W p l e (kR 1) s m args below meth c s.heap [] 0 0 (MQ below (qRi r) args s 0 0 (fun _ => False)) (F0 m 28 ls []) := by
        intro x2 hf ls hl
        unfold f_X5_bearers_L28 at hf
        refine lv_iinc (v := (x3 + (1 : Int32))) (lv' := [(3, .int (x3 + (1 : Int32))), (0, .ref q_this), (1, .int x1), (2, .int x2)]) hx hb dX5_bearers_28 hl (k := 3) rfl rfl (by decide) rfl (fun ls hl => ?_)
        refine lv_goto (tgt := 4) hx hb dX5_bearers_31 (by decide) ?_
        exact ih x2 (x3 + (1 : Int32)) res4 (hnext _ (osi hf).symm) ls (lv_sub hl [1, 2, 3, 0] rfl) KR
      refine lv_iload_n hx hb dX5_bearers_4 rfl (lv_at hl 3 rfl) ?_
      refine lv_aload_n hx hb dX5_bearers_5 rfl (lv_at hl 0 rfl) ?_
      refine p_get (D := (dC, dI)) (ci := 5) (v := .int vblocks) (C := RX5) (T := TX5) (N := 10) 0 fX5_0 hx hb hG inlX5 hown hK.1 hP 0 rfl rfl (by decide) (hG _ mw_52) rfl dX5_bearers_6 ?_
      refine lv_icmp_ge (tgt := 34) hx hb dX5_bearers_9 (by decide) (fun c1 => ?_) (fun c1 => ?_)
      · replace hf := ot hf c1
        refine lv_iload_n hx hb dX5_bearers_34 rfl (lv_at hl 2 rfl) ?_
        have hf := KR _ (hexit _ (osi hf).symm).symm
        exact x_iR hx hb hr hlocks hf dX5_bearers_35
      · replace hf := oe hf c1
        refine lv_aload_n hx hb dX5_bearers_12 rfl (lv_at hl 0 rfl) ?_
        refine lv_iload_n hx hb dX5_bearers_13 rfl (lv_at hl 3 rfl) ?_
        refine lv_iload_n hx hb dX5_bearers_14 rfl (lv_at hl 1 rfl) ?_
        obtain ⟨u2, hu2, hf⟩ := ob hf
        refine k_Vi (As := [.int x3, .int x1]) (rest := []) ⟨hx, hb, hml, hown, hts⟩ hK hP [0, 1, 2] rfl (c_X5_place l dC dI cI cJ cB q_this q_members q_moves q_digits q_sizes q_orders q_above q_below q_struck q_lots vblocks vsizes vorders x3 x1 hu2) (gl_X5_67 hts ⟨(Nat.le_of_ble_eq_true rfl), (Nat.le_of_ble_eq_true rfl)⟩) 0 5 rfl rfl rfl rfl hl.1 rfl (Nat.le_of_ble_eq_true rfl) dX5_bearers_15 ⟨Nat.zero_le _, Nat.zero_le _⟩ ?_
        refine lv_iconst (v := (-1 : Int32)) hx hb dX5_bearers_18 (by decide) ?_
        refine lv_icmp_eq (tgt := 28) hx hb dX5_bearers_19 (by decide) (fun c3 => ?_) (fun c3 => ?_)
        · replace hf := ot hf c3
          exact hJ28 x2 hf ls (lv_sub hl [0, 1, 2, 3] rfl)
        · replace hf := oe hf c3
          refine lv_iload_n hx hb dX5_bearers_22 rfl (lv_at hl 2 rfl) ?_
          refine lv_iconst (v := (1 : Int32)) hx hb dX5_bearers_23 (by decide) ?_
          refine lv_iload_n hx hb dX5_bearers_24 rfl (lv_at hl 3 rfl) ?_
          refine lv_ishl hx hb dX5_bearers_25 ?_
          refine lv_ior hx hb dX5_bearers_26 ?_
          refine lv_istore_n (lv' := [(2, .int (x2 ||| ((1 : Int32) <<< (x3 &&& 31)))), (0, .ref q_this), (1, .int x1), (3, .int x3)]) hx hb dX5_bearers_27 rfl hl (by decide) rfl (fun ls hl => ?_)
          exact hJ28 (x2 ||| ((1 : Int32) <<< (x3 &&& 31))) hf ls (lv_sub hl [1, 2, 0, 3] rfl)
  refine lv_iconst (v := (0 : Int32)) hx hb dX5_bearers_0 (by decide) ?_
  refine lv_istore_n (lv' := [(2, .int (0 : Int32)), (0, .ref q_this), (1, .int x1)]) hx hb dX5_bearers_1 rfl hl (by decide) rfl (fun ls hl => ?_)
  refine lv_iconst (v := (0 : Int32)) hx hb dX5_bearers_2 (by decide) ?_
  refine lv_istore_n (lv' := [(3, .int (0 : Int32)), (2, .int (0 : Int32)), (0, .ref q_this), (1, .int x1)]) hx hb dX5_bearers_3 rfl hl (by decide) rfl (fun ls hl => ?_)
  obtain ⟨e4, hp4, hf⟩ := ob hf
  exact hL4 N (0 : Int32) (0 : Int32) e4 hp4 ls (lv_sub hl [2, 3, 1, 0] rfl) (fun q9 h9 => by subst h9; exact osi hf)
def f_X5_changeRound (vorders : Nat → Int32) (x1 : Int32) (x2 : Int32) : Option ((Nat → Int32)) := (if ((x1 * (5 : Int32)) + x2) < 0 then some vorders else (if (((x1 * (5 : Int32)) + x2) + (1 : Int32)) < (30 : Int32) then (if ((x1 * (5 : Int32)) + x2) < 0 ∨ 30 ≤ ((x1 * (5 : Int32)) + x2).toNatClampNeg then none else (if (((x1 * (5 : Int32)) + x2) + (1 : Int32)) < 0 ∨ 30 ≤ (((x1 * (5 : Int32)) + x2) + (1 : Int32)).toNatClampNeg then none else some (upd (upd vorders ((x1 * (5 : Int32)) + x2).toNatClampNeg (vorders (((x1 * (5 : Int32)) + x2) + (1 : Int32)).toNatClampNeg)) (((x1 * (5 : Int32)) + x2) + (1 : Int32)).toNatClampNeg (vorders ((x1 * (5 : Int32)) + x2).toNatClampNeg)))) else some vorders))
def w_X5_changeRound (cI cJ cB : ClassId) (q_this q_members q_moves q_digits q_sizes q_orders q_above q_below q_struck q_lots : Nat) (vblocks : Int32) (vorders : Nat → Int32) : va_W := [(q_this, .inr (5, [.int vblocks, .ref q_members, .ref q_moves, .ref q_digits, .ref q_sizes, .ref q_orders, .ref q_above, .ref q_below, .ref q_struck, .ref q_lots])), (q_orders, .inl (cI, 30, .inl vorders))]
set_option maxHeartbeats 4000000 in
set_option maxRecDepth 100000 in
theorem c_X5_changeRound (l : Launch) (dC : Nat → ClassId) (dI : Nat → Nat → Nat) (cI cJ cB : ClassId) (q_this q_members q_moves q_digits q_sizes q_orders q_above q_below q_struck q_lots : Nat) (vblocks : Int32) (vorders : Nat → Int32) (x1 : Int32) (x2 : Int32) (sz : Nat) {r : (Nat → Int32)} (hf : f_X5_changeRound vorders x1 x2 = some r) : Met l yX5_changeRound (Cond.code yX5_changeRound cX5_changeRound 5 none :: wsL_law) (kR 0) (va_Pc [.ref q_this, .int x1, .int x2] (pW (dC, dI) cI cJ cB (w_X5_changeRound cI cJ cB q_this q_members q_moves q_digits q_sizes q_orders q_above q_below q_struck q_lots vblocks vorders) sz)) (qWv (fun w => w = (w_X5_changeRound cI cJ cB q_this q_members q_moves q_digits q_sizes q_orders q_above q_below q_struck q_lots vblocks r)) (dC, dI) (va_A (w_X5_changeRound cI cJ cB q_this q_members q_moves q_digits q_sizes q_orders q_above q_below q_struck q_lots vblocks vorders) sz)) 0 0 (va_A (w_X5_changeRound cI cJ cB q_this q_members q_moves q_digits q_sizes q_orders q_above q_below q_struck q_lots vblocks vorders) sz) := by
  refine k_wr (Qc := fun A => (qWv (fun w => w = (w_X5_changeRound cI cJ cB q_this q_members q_moves q_digits q_sizes q_orders q_above q_below q_struck q_lots vblocks r)) (dC, dI) A)) (cc := cX5_changeRound) (n := 5) (ret := none) (by decide) (Nat.le_of_ble_eq_true rfl) ?_
  intro p e s m args below meth c ls A hx hb hr hml hts hown hlocks hnm hA hK hP hD hS hl
  have hD : va_D A [(q_this, .inr (5, [.int vblocks, .ref q_members, .ref q_moves, .ref q_digits, .ref q_sizes, .ref q_orders, .ref q_above, .ref q_below, .ref q_struck, .ref q_lots])), (q_orders, .inl (cI, 30, .inl vorders))] := hD
  have hP : va_P (dC, dI) classes [(q_this, .inr (5, [.int vblocks, .ref q_members, .ref q_moves, .ref q_digits, .ref q_sizes, .ref q_orders, .ref q_above, .ref q_below, .ref q_struck, .ref q_lots])), (q_orders, .inl (cI, 30, .inl vorders))] s.heap := hP
  have hG : ∀ w ∈ wsL_law, w.before args s = true := fun w h => hts w (List.mem_cons_of_mem _ h)
  have hown : s.vm.findClass RX5 = some m.cls := hown
  have hl : lv_has ls 5 [(0, .ref q_this), (1, .int x1), (2, .int x2)] := hl
  unfold f_X5_changeRound at hf
  refine lv_iload_n hx hb dX5_changeRound_0 rfl (lv_at hl 1 rfl) ?_
  refine lv_iconst (v := (5 : Int32)) hx hb dX5_changeRound_1 (by decide) ?_
  refine lv_imul hx hb dX5_changeRound_2 ?_
  refine lv_iload_n hx hb dX5_changeRound_3 rfl (lv_at hl 2 rfl) ?_
  refine lv_iadd hx hb dX5_changeRound_4 ?_
  refine lv_istore_n (lv' := [(3, .int ((x1 * (5 : Int32)) + x2)), (0, .ref q_this), (1, .int x1), (2, .int x2)]) hx hb dX5_changeRound_5 rfl hl (by decide) rfl (fun ls hl => ?_)
  refine lv_iload_n hx hb dX5_changeRound_6 rfl (lv_at hl 0 rfl) ?_
  refine lv_if_lt (tgt := 18) hx hb dX5_changeRound_7 (by decide) (fun c1 => ?_) (fun c1 => ?_)
  · replace hf := ot hf c1
    have hf := osi hf
    exact x_vW hx hb hr hlocks hP hD hS (by have h9 := congrArg (fun z : (Nat → Int32) => (w_X5_changeRound cI cJ cB q_this q_members q_moves q_digits q_sizes q_orders q_above q_below q_struck q_lots vblocks z)) hf; exact h9) dX5_changeRound_18
  · replace hf := oe hf c1
    refine lv_iload_n hx hb dX5_changeRound_10 rfl (lv_at hl 0 rfl) ?_
    refine lv_iconst (v := (1 : Int32)) hx hb dX5_changeRound_11 (by decide) ?_
    refine lv_iadd hx hb dX5_changeRound_12 ?_
    refine lv_bipush (v := (30 : Int32)) hx hb dX5_changeRound_13 (by decide) ?_
    refine lv_icmp_lt (tgt := 19) hx hb dX5_changeRound_15 (by decide) (fun c2 => ?_) (fun c2 => ?_)
    · replace hf := ot hf c2
      refine lv_aload_n hx hb dX5_changeRound_19 rfl (lv_at hl 1 rfl) ?_
      refine p_get (D := (dC, dI)) (ci := 5) (v := .ref q_orders) (C := RX5) (T := TX5) (N := 10) 5 fX5_5 hx hb hG inlX5 hown hK.1 hP 0 rfl rfl (by decide) (hG _ mw_57) rfl dX5_changeRound_20 ?_
      refine lv_iload_n hx hb dX5_changeRound_23 rfl (lv_at hl 0 rfl) ?_
      obtain ⟨g3, hf⟩ := og hf
      refine va_iald hx hb hK.1 hP 1 0 rfl rfl g3 dX5_changeRound_24 ?_
      refine lv_istore (lv' := [(4, .int (vorders ((x1 * (5 : Int32)) + x2).toNatClampNeg)), (3, .int ((x1 * (5 : Int32)) + x2)), (0, .ref q_this), (1, .int x1), (2, .int x2)]) hx hb dX5_changeRound_25 hl (by decide) rfl (fun ls hl => ?_)
      refine lv_aload_n hx hb dX5_changeRound_27 rfl (lv_at hl 2 rfl) ?_
      refine p_get (D := (dC, dI)) (ci := 5) (v := .ref q_orders) (C := RX5) (T := TX5) (N := 10) 5 fX5_5 hx hb hG inlX5 hown hK.1 hP 0 rfl rfl (by decide) (hG _ mw_57) rfl dX5_changeRound_28 ?_
      refine lv_iload_n hx hb dX5_changeRound_31 rfl (lv_at hl 1 rfl) ?_
      refine lv_aload_n hx hb dX5_changeRound_32 rfl (lv_at hl 2 rfl) ?_
      refine p_get (D := (dC, dI)) (ci := 5) (v := .ref q_orders) (C := RX5) (T := TX5) (N := 10) 5 fX5_5 hx hb hG inlX5 hown hK.1 hP 0 rfl rfl (by decide) (hG _ mw_57) rfl dX5_changeRound_33 ?_
      refine lv_iload_n hx hb dX5_changeRound_36 rfl (lv_at hl 1 rfl) ?_
      refine lv_iconst (v := (1 : Int32)) hx hb dX5_changeRound_37 (by decide) ?_
      refine lv_iadd hx hb dX5_changeRound_38 ?_
      obtain ⟨g4, hf⟩ := og hf
      refine va_iald hx hb hK.1 hP 1 0 rfl rfl g4 dX5_changeRound_39 ?_
      refine va_iast hx hb hK.1 hP hD hS 1 0 rfl rfl g3 dX5_changeRound_40 (fun H locs hP hD hS => ?_)
      have hP : va_P (dC, dI) classes [(q_this, .inr (5, [.int vblocks, .ref q_members, .ref q_moves, .ref q_digits, .ref q_sizes, .ref q_orders, .ref q_above, .ref q_below, .ref q_struck, .ref q_lots])), (q_orders, .inl (cI, 30, .inl (upd vorders ((x1 * (5 : Int32)) + x2).toNatClampNeg (vorders (((x1 * (5 : Int32)) + x2) + (1 : Int32)).toNatClampNeg))))] H := hP
      have hD : va_D A [(q_this, .inr (5, [.int vblocks, .ref q_members, .ref q_moves, .ref q_digits, .ref q_sizes, .ref q_orders, .ref q_above, .ref q_below, .ref q_struck, .ref q_lots])), (q_orders, .inl (cI, 30, .inl (upd vorders ((x1 * (5 : Int32)) + x2).toNatClampNeg (vorders (((x1 * (5 : Int32)) + x2) + (1 : Int32)).toNatClampNeg))))] := hD
      refine lv_aload_n hx hb dX5_changeRound_41 rfl (lv_at hl 2 rfl) ?_
      refine p_get (D := (dC, dI)) (ci := 5) (v := .ref q_orders) (C := RX5) (T := TX5) (N := 10) 5 fX5_5 hx hb hG inlX5 hown hK.1 hP 0 rfl rfl (by decide) (hG _ mw_57) rfl dX5_changeRound_42 ?_
      refine lv_iload_n hx hb dX5_changeRound_45 rfl (lv_at hl 1 rfl) ?_
      refine lv_iconst (v := (1 : Int32)) hx hb dX5_changeRound_46 (by decide) ?_
      refine lv_iadd hx hb dX5_changeRound_47 ?_
      refine lv_iload hx hb dX5_changeRound_48 (lv_at hl 0 rfl) ?_
      refine va_iast hx hb hK.1 hP hD hS 1 0 rfl rfl g4 dX5_changeRound_50 (fun H locs hP hD hS => ?_)
      have hP : va_P (dC, dI) classes [(q_this, .inr (5, [.int vblocks, .ref q_members, .ref q_moves, .ref q_digits, .ref q_sizes, .ref q_orders, .ref q_above, .ref q_below, .ref q_struck, .ref q_lots])), (q_orders, .inl (cI, 30, .inl (upd (upd vorders ((x1 * (5 : Int32)) + x2).toNatClampNeg (vorders (((x1 * (5 : Int32)) + x2) + (1 : Int32)).toNatClampNeg)) (((x1 * (5 : Int32)) + x2) + (1 : Int32)).toNatClampNeg (vorders ((x1 * (5 : Int32)) + x2).toNatClampNeg))))] H := hP
      have hD : va_D A [(q_this, .inr (5, [.int vblocks, .ref q_members, .ref q_moves, .ref q_digits, .ref q_sizes, .ref q_orders, .ref q_above, .ref q_below, .ref q_struck, .ref q_lots])), (q_orders, .inl (cI, 30, .inl (upd (upd vorders ((x1 * (5 : Int32)) + x2).toNatClampNeg (vorders (((x1 * (5 : Int32)) + x2) + (1 : Int32)).toNatClampNeg)) (((x1 * (5 : Int32)) + x2) + (1 : Int32)).toNatClampNeg (vorders ((x1 * (5 : Int32)) + x2).toNatClampNeg))))] := hD
      have hf := osi hf
      exact x_vW hx hb hr hlocks hP hD hS (by have h9 := congrArg (fun z : (Nat → Int32) => (w_X5_changeRound cI cJ cB q_this q_members q_moves q_digits q_sizes q_orders q_above q_below q_struck q_lots vblocks z)) hf; exact h9) dX5_changeRound_51
    · replace hf := oe hf c2
      have hf := osi hf
      exact x_vW hx hb hr hlocks hP hD hS (by have h9 := congrArg (fun z : (Nat → Int32) => (w_X5_changeRound cI cJ cB q_this q_members q_moves q_digits q_sizes q_orders q_above q_below q_struck q_lots vblocks z)) hf; exact h9) dX5_changeRound_18
def f_X5_freezeStrikes_L28 (vstruck : Nat → Int32) (x2 : Int32) (z0 : Int32) (z1 : Int32) : Option ((Int32 × (Nat → Int32)) ⊕ ((Nat → Int32))) := (if z1 < 0 ∨ 5 ≤ z1.toNatClampNeg then none else some (.inl ((x2 + (1 : Int32)), (upd vstruck z1.toNatClampNeg z0))))
def f_X5_freezeStrikes_B2 (x1 : Int32) (x2 : Int32) (vstruck : Nat → Int32) : Option ((Int32 × (Nat → Int32)) ⊕ ((Nat → Int32))) := (if (5 : Int32) ≤ x2 then some (.inr vstruck) else (if x2 < 0 ∨ 5 ≤ x2.toNatClampNeg then none else (if (vstruck x2.toNatClampNeg) ≤ x1 then (f_X5_freezeStrikes_L28 vstruck x2 (0 : Int32) x2) else (f_X5_freezeStrikes_L28 vstruck x2 (32 : Int32) x2))))
def f_X5_freezeStrikes (N : Nat) (vstruck : Nat → Int32) (x1 : Int32) : Option ((Nat → Int32)) := ((lp (fun s => f_X5_freezeStrikes_B2 x1 s.1 s.2) N ((0 : Int32), vstruck)).bind (fun e5 => some e5))
def w_X5_freezeStrikes (cI cJ cB : ClassId) (q_this q_members q_moves q_digits q_sizes q_orders q_above q_below q_struck q_lots : Nat) (vblocks : Int32) (vstruck : Nat → Int32) : va_W := [(q_this, .inr (5, [.int vblocks, .ref q_members, .ref q_moves, .ref q_digits, .ref q_sizes, .ref q_orders, .ref q_above, .ref q_below, .ref q_struck, .ref q_lots])), (q_struck, .inl (cI, 5, .inl vstruck))]
set_option maxHeartbeats 4000000 in
set_option maxRecDepth 100000 in
theorem c_X5_freezeStrikes (l : Launch) (dC : Nat → ClassId) (dI : Nat → Nat → Nat) (cI cJ cB : ClassId) (q_this q_members q_moves q_digits q_sizes q_orders q_above q_below q_struck q_lots : Nat) (vblocks : Int32) (vstruck : Nat → Int32) (x1 : Int32) (sz : Nat) {N : Nat} {r : (Nat → Int32)} (hf : f_X5_freezeStrikes N vstruck x1 = some r) : Met l yX5_freezeStrikes (Cond.code yX5_freezeStrikes cX5_freezeStrikes 3 none :: wsL_law) (kR 0) (va_Pc [.ref q_this, .int x1] (pW (dC, dI) cI cJ cB (w_X5_freezeStrikes cI cJ cB q_this q_members q_moves q_digits q_sizes q_orders q_above q_below q_struck q_lots vblocks vstruck) sz)) (qWv (fun w => w = (w_X5_freezeStrikes cI cJ cB q_this q_members q_moves q_digits q_sizes q_orders q_above q_below q_struck q_lots vblocks r)) (dC, dI) (va_A (w_X5_freezeStrikes cI cJ cB q_this q_members q_moves q_digits q_sizes q_orders q_above q_below q_struck q_lots vblocks vstruck) sz)) 0 0 (va_A (w_X5_freezeStrikes cI cJ cB q_this q_members q_moves q_digits q_sizes q_orders q_above q_below q_struck q_lots vblocks vstruck) sz) := by
  refine k_wr (Qc := fun A => (qWv (fun w => w = (w_X5_freezeStrikes cI cJ cB q_this q_members q_moves q_digits q_sizes q_orders q_above q_below q_struck q_lots vblocks r)) (dC, dI) A)) (cc := cX5_freezeStrikes) (n := 3) (ret := none) (by decide) (Nat.le_of_ble_eq_true rfl) ?_
  intro p e s m args below meth c ls A hx hb hr hml hts hown hlocks hnm hA hK hP hD hS hl
  have hD : va_D A [(q_this, .inr (5, [.int vblocks, .ref q_members, .ref q_moves, .ref q_digits, .ref q_sizes, .ref q_orders, .ref q_above, .ref q_below, .ref q_struck, .ref q_lots])), (q_struck, .inl (cI, 5, .inl vstruck))] := hD
  have hP : va_P (dC, dI) classes [(q_this, .inr (5, [.int vblocks, .ref q_members, .ref q_moves, .ref q_digits, .ref q_sizes, .ref q_orders, .ref q_above, .ref q_below, .ref q_struck, .ref q_lots])), (q_struck, .inl (cI, 5, .inl vstruck))] s.heap := hP
  have hG : ∀ w ∈ wsL_law, w.before args s = true := fun w h => hts w (List.mem_cons_of_mem _ h)
  have hown : s.vm.findClass RX5 = some m.cls := hown
  have hl : lv_has ls 3 [(0, .ref q_this), (1, .int x1)] := hl
  unfold f_X5_freezeStrikes at hf
  have hL2 : ∀ (n : Nat) (x2 : Int32) (vstruck : Nat → Int32) (res2 : (Nat → Int32)), lp (fun s => f_X5_freezeStrikes_B2 x1 s.1 s.2) n (x2, vstruck) = some res2 → ∀ (H : Heap) (locs : List Loc) (ls : Array Slot), va_P (dC, dI) classes [(q_this, .inr (5, [.int vblocks, .ref q_members, .ref q_moves, .ref q_digits, .ref q_sizes, .ref q_orders, .ref q_above, .ref q_below, .ref q_struck, .ref q_lots])), (q_struck, .inl (cI, 5, .inl vstruck))] H → va_D A [(q_this, .inr (5, [.int vblocks, .ref q_members, .ref q_moves, .ref q_digits, .ref q_sizes, .ref q_orders, .ref q_above, .ref q_below, .ref q_struck, .ref q_lots])), (q_struck, .inl (cI, 5, .inl vstruck))] → va_S A s.heap H locs → lv_has ls 3 [(0, .ref q_this), (1, .int x1), (2, .int x2)] → (∀ q9 : (Nat → Int32), res2 = q9 → q9 = r) → W p l e (kR 0) s m args below meth c H locs 0 0 (MQ below (qWv (fun w => w = (w_X5_freezeStrikes cI cJ cB q_this q_members q_moves q_digits q_sizes q_orders q_above q_below q_struck q_lots vblocks r)) (dC, dI) A) args s 0 0 A) (F0 m 2 ls []) := by
    intro n
    induction n with
    | zero => intro x2 vstruck res2 h9; exact (lp_zero h9).elim
    | succ n ih =>
      intro x2 vstruck res2 h9 H locs ls hP hD hS hl KR
      obtain ⟨o2, hf, hnext, hexit⟩ := lp_succ h9
      have hf : f_X5_freezeStrikes_B2 x1 x2 vstruck = some o2 := hf
      unfold f_X5_freezeStrikes_B2 at hf
      have hJ28 : ∀ (z0 : Int32) (z1 : Int32), f_X5_freezeStrikes_L28 vstruck x2 z0 z1 = some o2 → ∀ (H : Heap) (locs : List Loc) (ls : Array Slot), va_P (dC, dI) classes [(q_this, .inr (5, [.int vblocks, .ref q_members, .ref q_moves, .ref q_digits, .ref q_sizes, .ref q_orders, .ref q_above, .ref q_below, .ref q_struck, .ref q_lots])), (q_struck, .inl (cI, 5, .inl vstruck))] H → va_D A [(q_this, .inr (5, [.int vblocks, .ref q_members, .ref q_moves, .ref q_digits, .ref q_sizes, .ref q_orders, .ref q_above, .ref q_below, .ref q_struck, .ref q_lots])), (q_struck, .inl (cI, 5, .inl vstruck))] → va_S A s.heap H locs → lv_has ls 3 [(0, .ref q_this), (1, .int x1), (2, .int x2)] → W p l e (kR 0) s m args below meth c H locs 0 0 (MQ below (qWv (fun w => w = (w_X5_freezeStrikes cI cJ cB q_this q_members q_moves q_digits q_sizes q_orders q_above q_below q_struck q_lots vblocks r)) (dC, dI) A) args s 0 0 A) (F0 m 28 ls [.int z0, .int z1, .ref q_struck]) := by
        intro z0 z1 hf H locs ls hP hD hS hl
        unfold f_X5_freezeStrikes_L28 at hf
        obtain ⟨g1, hf⟩ := og hf
        refine va_iast hx hb hK.1 hP hD hS 1 0 rfl rfl g1 dX5_freezeStrikes_28 (fun H locs hP hD hS => ?_)
        have hP : va_P (dC, dI) classes [(q_this, .inr (5, [.int vblocks, .ref q_members, .ref q_moves, .ref q_digits, .ref q_sizes, .ref q_orders, .ref q_above, .ref q_below, .ref q_struck, .ref q_lots])), (q_struck, .inl (cI, 5, .inl (upd vstruck z1.toNatClampNeg z0)))] H := hP
        have hD : va_D A [(q_this, .inr (5, [.int vblocks, .ref q_members, .ref q_moves, .ref q_digits, .ref q_sizes, .ref q_orders, .ref q_above, .ref q_below, .ref q_struck, .ref q_lots])), (q_struck, .inl (cI, 5, .inl (upd vstruck z1.toNatClampNeg z0)))] := hD
        refine lv_iinc (v := (x2 + (1 : Int32))) (lv' := [(2, .int (x2 + (1 : Int32))), (0, .ref q_this), (1, .int x1)]) hx hb dX5_freezeStrikes_29 hl (k := 2) rfl rfl (by decide) rfl (fun ls hl => ?_)
        refine lv_goto (tgt := 2) hx hb dX5_freezeStrikes_32 (by decide) ?_
        exact ih (x2 + (1 : Int32)) (upd vstruck z1.toNatClampNeg z0) res2 (hnext _ (osi hf).symm) _ _ ls hP hD hS (lv_sub hl [1, 2, 0] rfl) KR
      refine lv_iload_n hx hb dX5_freezeStrikes_2 rfl (lv_at hl 2 rfl) ?_
      refine lv_iconst (v := (5 : Int32)) hx hb dX5_freezeStrikes_3 (by decide) ?_
      refine lv_icmp_ge (tgt := 35) hx hb dX5_freezeStrikes_4 (by decide) (fun c2 => ?_) (fun c2 => ?_)
      · replace hf := ot hf c2
        have hf := KR _ (hexit _ (osi hf).symm).symm
        exact x_vW hx hb hr hlocks hP hD hS (by have h9 := congrArg (fun z : (Nat → Int32) => (w_X5_freezeStrikes cI cJ cB q_this q_members q_moves q_digits q_sizes q_orders q_above q_below q_struck q_lots vblocks z)) hf; exact h9) dX5_freezeStrikes_35
      · replace hf := oe hf c2
        refine lv_aload_n hx hb dX5_freezeStrikes_7 rfl (lv_at hl 0 rfl) ?_
        refine p_get (D := (dC, dI)) (ci := 5) (v := .ref q_struck) (C := RX5) (T := TX5) (N := 10) 8 fX5_8 hx hb hG inlX5 hown hK.1 hP 0 rfl rfl (by decide) (hG _ mw_60) rfl dX5_freezeStrikes_8 ?_
        refine lv_iload_n hx hb dX5_freezeStrikes_11 rfl (lv_at hl 2 rfl) ?_
        refine lv_iload_n hx hb dX5_freezeStrikes_12 rfl (lv_at hl 1 rfl) ?_
        refine lv_aload_n hx hb dX5_freezeStrikes_13 rfl (lv_at hl 0 rfl) ?_
        refine p_get (D := (dC, dI)) (ci := 5) (v := .ref q_struck) (C := RX5) (T := TX5) (N := 10) 8 fX5_8 hx hb hG inlX5 hown hK.1 hP 0 rfl rfl (by decide) (hG _ mw_60) rfl dX5_freezeStrikes_14 ?_
        refine lv_iload_n hx hb dX5_freezeStrikes_17 rfl (lv_at hl 2 rfl) ?_
        obtain ⟨g3, hf⟩ := og hf
        refine va_iald hx hb hK.1 hP 1 0 rfl rfl g3 dX5_freezeStrikes_18 ?_
        refine lv_icmp_ge (tgt := 27) hx hb dX5_freezeStrikes_19 (by decide) (fun c4 => ?_) (fun c4 => ?_)
        · replace hf := ot hf c4
          refine lv_iconst (v := (0 : Int32)) hx hb dX5_freezeStrikes_27 (by decide) ?_
          exact hJ28 (0 : Int32) x2 hf _ _ ls hP hD hS (lv_sub hl [0, 1, 2] rfl)
        · replace hf := oe hf c4
          refine lv_bipush (v := (32 : Int32)) hx hb dX5_freezeStrikes_22 (by decide) ?_
          refine lv_goto (tgt := 28) hx hb dX5_freezeStrikes_24 (by decide) ?_
          exact hJ28 (32 : Int32) x2 hf _ _ ls hP hD hS (lv_sub hl [0, 1, 2] rfl)
  refine lv_iconst (v := (0 : Int32)) hx hb dX5_freezeStrikes_0 (by decide) ?_
  refine lv_istore_n (lv' := [(2, .int (0 : Int32)), (0, .ref q_this), (1, .int x1)]) hx hb dX5_freezeStrikes_1 rfl hl (by decide) rfl (fun ls hl => ?_)
  obtain ⟨e5, hp5, hf⟩ := ob hf
  exact hL2 N (0 : Int32) vstruck e5 hp5 _ _ ls hP hD hS (lv_sub hl [1, 2, 0] rfl) (fun q9 h9 => by subst h9; exact osi hf)
def f_X5_hasDigit (vmoves : Nat → Int32) (x1 : Int32) : Option (Int32) := (if x1 < 0 ∨ 6 ≤ x1.toNatClampNeg then none else (if (vmoves x1.toNatClampNeg) = (3 : Int32) then some (1 : Int32) else (if (vmoves x1.toNatClampNeg) = (4 : Int32) then some (1 : Int32) else some (0 : Int32))))
def w_X5_hasDigit (cI cJ cB : ClassId) (q_this q_members q_moves q_digits q_sizes q_orders q_above q_below q_struck q_lots : Nat) (vblocks : Int32) (vmoves : Nat → Int32) : va_W := [(q_this, .inr (5, [.int vblocks, .ref q_members, .ref q_moves, .ref q_digits, .ref q_sizes, .ref q_orders, .ref q_above, .ref q_below, .ref q_struck, .ref q_lots])), (q_moves, .inl (cI, 6, .inl vmoves))]
set_option maxHeartbeats 4000000 in
set_option maxRecDepth 100000 in
theorem c_X5_hasDigit (l : Launch) (dC : Nat → ClassId) (dI : Nat → Nat → Nat) (cI cJ cB : ClassId) (q_this q_members q_moves q_digits q_sizes q_orders q_above q_below q_struck q_lots : Nat) (vblocks : Int32) (vmoves : Nat → Int32) (x1 : Int32) {r : Int32} (hf : f_X5_hasDigit vmoves x1 = some r) : Met l yX5_hasDigit (Cond.code yX5_hasDigit cX5_hasDigit 2 (some .boolean) :: wsL_law) (kR 0) (va_Pc [.ref q_this, .int x1] (pR (dC, dI) cI cJ cB (w_X5_hasDigit cI cJ cB q_this q_members q_moves q_digits q_sizes q_orders q_above q_below q_struck q_lots vblocks vmoves))) (qRi r) 0 0 (fun _ => False) := by
  refine k_ro (cc := cX5_hasDigit) (n := 2) (ret := (some .boolean)) (by decide) (Nat.le_of_ble_eq_true rfl) ?_
  intro p e s m args below meth c ls hx hb hr hml hts hown hlocks hK hP hl
  have hP : va_P (dC, dI) classes [(q_this, .inr (5, [.int vblocks, .ref q_members, .ref q_moves, .ref q_digits, .ref q_sizes, .ref q_orders, .ref q_above, .ref q_below, .ref q_struck, .ref q_lots])), (q_moves, .inl (cI, 6, .inl vmoves))] s.heap := hP
  have hG : ∀ w ∈ wsL_law, w.before args s = true := fun w h => hts w (List.mem_cons_of_mem _ h)
  have hown : s.vm.findClass RX5 = some m.cls := hown
  have hl : lv_has ls 2 [(0, .ref q_this), (1, .int x1)] := hl
  unfold f_X5_hasDigit at hf
  refine lv_aload_n hx hb dX5_hasDigit_0 rfl (lv_at hl 0 rfl) ?_
  refine p_get (D := (dC, dI)) (ci := 5) (v := .ref q_moves) (C := RX5) (T := TX5) (N := 10) 2 fX5_2 hx hb hG inlX5 hown hK.1 hP 0 rfl rfl (by decide) (hG _ mw_54) rfl dX5_hasDigit_1 ?_
  refine lv_iload_n hx hb dX5_hasDigit_4 rfl (lv_at hl 1 rfl) ?_
  obtain ⟨g1, hf⟩ := og hf
  refine va_iald hx hb hK.1 hP 1 0 rfl rfl g1 dX5_hasDigit_5 ?_
  refine lv_iconst (v := (3 : Int32)) hx hb dX5_hasDigit_6 (by decide) ?_
  refine lv_icmp_eq (tgt := 20) hx hb dX5_hasDigit_7 (by decide) (fun c2 => ?_) (fun c2 => ?_)
  · replace hf := ot hf c2
    refine lv_iconst (v := (1 : Int32)) hx hb dX5_hasDigit_20 (by decide) ?_
    refine lv_goto (tgt := 25) hx hb dX5_hasDigit_21 (by decide) ?_
    have hf := osi hf
    exact x_zR hx hb hr hlocks rfl hf dX5_hasDigit_25
  · replace hf := oe hf c2
    refine lv_aload_n hx hb dX5_hasDigit_10 rfl (lv_at hl 0 rfl) ?_
    refine p_get (D := (dC, dI)) (ci := 5) (v := .ref q_moves) (C := RX5) (T := TX5) (N := 10) 2 fX5_2 hx hb hG inlX5 hown hK.1 hP 0 rfl rfl (by decide) (hG _ mw_54) rfl dX5_hasDigit_11 ?_
    refine lv_iload_n hx hb dX5_hasDigit_14 rfl (lv_at hl 1 rfl) ?_
    refine va_iald hx hb hK.1 hP 1 0 rfl rfl g1 dX5_hasDigit_15 ?_
    refine lv_iconst (v := (4 : Int32)) hx hb dX5_hasDigit_16 (by decide) ?_
    refine lv_icmp_ne (tgt := 24) hx hb dX5_hasDigit_17 (by decide) (fun c3 => ?_) (fun c3 => ?_)
    · replace hf := oe hf c3
      refine lv_iconst (v := (0 : Int32)) hx hb dX5_hasDigit_24 (by decide) ?_
      have hf := osi hf
      exact x_zR hx hb hr hlocks rfl hf dX5_hasDigit_25
    · replace hf := ot hf c3
      refine lv_iconst (v := (1 : Int32)) hx hb dX5_hasDigit_20 (by decide) ?_
      refine lv_goto (tgt := 25) hx hb dX5_hasDigit_21 (by decide) ?_
      have hf := osi hf
      exact x_zR hx hb hr hlocks rfl hf dX5_hasDigit_25
def f_X5_lotBlock_L32 (x3 : Int32) (x2 : Int32) : Option ((Int32 × Int32) ⊕ (Int32)) := some (.inl (x2, (x3 + (1 : Int32))))
def f_X5_lotBlock_B4 (vblocks : Int32) (vmoves : Nat → Int32) (x1 : Int32) (x2 : Int32) (x3 : Int32) : Option ((Int32 × Int32) ⊕ (Int32)) := (if vblocks ≤ x3 then some (.inr (-1 : Int32)) else (if x3 < 0 ∨ 6 ≤ x3.toNatClampNeg then none else (if (vmoves x3.toNatClampNeg) = (4 : Int32) then (if x2 = x1 then some (.inr x3) else (f_X5_lotBlock_L32 x3 (x2 + (1 : Int32)))) else (f_X5_lotBlock_L32 x3 x2))))
def f_X5_lotBlock (N : Nat) (vblocks : Int32) (vmoves : Nat → Int32) (x1 : Int32) : Option (Int32) := ((lp (fun s => f_X5_lotBlock_B4 vblocks vmoves x1 s.1 s.2) N ((0 : Int32), (0 : Int32))).bind (fun e5 => some e5))
def w_X5_lotBlock (cI cJ cB : ClassId) (q_this q_members q_moves q_digits q_sizes q_orders q_above q_below q_struck q_lots : Nat) (vblocks : Int32) (vmoves : Nat → Int32) : va_W := [(q_this, .inr (5, [.int vblocks, .ref q_members, .ref q_moves, .ref q_digits, .ref q_sizes, .ref q_orders, .ref q_above, .ref q_below, .ref q_struck, .ref q_lots])), (q_moves, .inl (cI, 6, .inl vmoves))]
set_option maxHeartbeats 4000000 in
set_option maxRecDepth 100000 in
theorem c_X5_lotBlock (l : Launch) (dC : Nat → ClassId) (dI : Nat → Nat → Nat) (cI cJ cB : ClassId) (q_this q_members q_moves q_digits q_sizes q_orders q_above q_below q_struck q_lots : Nat) (vblocks : Int32) (vmoves : Nat → Int32) (x1 : Int32) {N : Nat} {r : Int32} (hf : f_X5_lotBlock N vblocks vmoves x1 = some r) : Met l yX5_lotBlock (Cond.code yX5_lotBlock cX5_lotBlock 4 (some .int) :: wsL_law) (kR 0) (va_Pc [.ref q_this, .int x1] (pR (dC, dI) cI cJ cB (w_X5_lotBlock cI cJ cB q_this q_members q_moves q_digits q_sizes q_orders q_above q_below q_struck q_lots vblocks vmoves))) (qRi r) 0 0 (fun _ => False) := by
  refine k_ro (cc := cX5_lotBlock) (n := 4) (ret := (some .int)) (by decide) (Nat.le_of_ble_eq_true rfl) ?_
  intro p e s m args below meth c ls hx hb hr hml hts hown hlocks hK hP hl
  have hP : va_P (dC, dI) classes [(q_this, .inr (5, [.int vblocks, .ref q_members, .ref q_moves, .ref q_digits, .ref q_sizes, .ref q_orders, .ref q_above, .ref q_below, .ref q_struck, .ref q_lots])), (q_moves, .inl (cI, 6, .inl vmoves))] s.heap := hP
  have hG : ∀ w ∈ wsL_law, w.before args s = true := fun w h => hts w (List.mem_cons_of_mem _ h)
  have hown : s.vm.findClass RX5 = some m.cls := hown
  have hl : lv_has ls 4 [(0, .ref q_this), (1, .int x1)] := hl
  unfold f_X5_lotBlock at hf
  have hL4 : ∀ (n : Nat) (x2 : Int32) (x3 : Int32) (res4 : Int32), lp (fun s => f_X5_lotBlock_B4 vblocks vmoves x1 s.1 s.2) n (x2, x3) = some res4 → ∀ (ls : Array Slot), lv_has ls 4 [(0, .ref q_this), (1, .int x1), (2, .int x2), (3, .int x3)] → (∀ q9 : Int32, res4 = q9 → q9 = r) → W p l e (kR 0) s m args below meth c s.heap [] 0 0 (MQ below (qRi r) args s 0 0 (fun _ => False)) (F0 m 4 ls []) := by
    intro n
    induction n with
    | zero => intro x2 x3 res4 h9; exact (lp_zero h9).elim
    | succ n ih =>
      intro x2 x3 res4 h9 ls hl KR
      obtain ⟨o4, hf, hnext, hexit⟩ := lp_succ h9
      have hf : f_X5_lotBlock_B4 vblocks vmoves x1 x2 x3 = some o4 := hf
      unfold f_X5_lotBlock_B4 at hf
      have hJ32 : ∀ (x2 : Int32), f_X5_lotBlock_L32 x3 x2 = some o4 → ∀ (ls : Array Slot), lv_has ls 4 [(0, .ref q_this), (1, .int x1), (2, .int x2), (3, .int x3)] → W p l e (kR 0) s m args below meth c s.heap [] 0 0 (MQ below (qRi r) args s 0 0 (fun _ => False)) (F0 m 32 ls []) := by
        intro x2 hf ls hl
        unfold f_X5_lotBlock_L32 at hf
        refine lv_iinc (v := (x3 + (1 : Int32))) (lv' := [(3, .int (x3 + (1 : Int32))), (0, .ref q_this), (1, .int x1), (2, .int x2)]) hx hb dX5_lotBlock_32 hl (k := 3) rfl rfl (by decide) rfl (fun ls hl => ?_)
        refine lv_goto (tgt := 4) hx hb dX5_lotBlock_35 (by decide) ?_
        exact ih x2 (x3 + (1 : Int32)) res4 (hnext _ (osi hf).symm) ls (lv_sub hl [1, 2, 3, 0] rfl) KR
      refine lv_iload_n hx hb dX5_lotBlock_4 rfl (lv_at hl 3 rfl) ?_
      refine lv_aload_n hx hb dX5_lotBlock_5 rfl (lv_at hl 0 rfl) ?_
      refine p_get (D := (dC, dI)) (ci := 5) (v := .int vblocks) (C := RX5) (T := TX5) (N := 10) 0 fX5_0 hx hb hG inlX5 hown hK.1 hP 0 rfl rfl (by decide) (hG _ mw_52) rfl dX5_lotBlock_6 ?_
      refine lv_icmp_ge (tgt := 38) hx hb dX5_lotBlock_9 (by decide) (fun c1 => ?_) (fun c1 => ?_)
      · replace hf := ot hf c1
        refine lv_iconst (v := (-1 : Int32)) hx hb dX5_lotBlock_38 (by decide) ?_
        have hf := KR _ (hexit _ (osi hf).symm).symm
        exact x_iR hx hb hr hlocks hf dX5_lotBlock_39
      · replace hf := oe hf c1
        refine lv_aload_n hx hb dX5_lotBlock_12 rfl (lv_at hl 0 rfl) ?_
        refine p_get (D := (dC, dI)) (ci := 5) (v := .ref q_moves) (C := RX5) (T := TX5) (N := 10) 2 fX5_2 hx hb hG inlX5 hown hK.1 hP 0 rfl rfl (by decide) (hG _ mw_54) rfl dX5_lotBlock_13 ?_
        refine lv_iload_n hx hb dX5_lotBlock_16 rfl (lv_at hl 3 rfl) ?_
        obtain ⟨g2, hf⟩ := og hf
        refine va_iald hx hb hK.1 hP 1 0 rfl rfl g2 dX5_lotBlock_17 ?_
        refine lv_iconst (v := (4 : Int32)) hx hb dX5_lotBlock_18 (by decide) ?_
        refine lv_icmp_ne (tgt := 32) hx hb dX5_lotBlock_19 (by decide) (fun c3 => ?_) (fun c3 => ?_)
        · replace hf := oe hf c3
          exact hJ32 x2 hf ls (lv_sub hl [0, 1, 2, 3] rfl)
        · replace hf := ot hf c3
          refine lv_iload_n hx hb dX5_lotBlock_22 rfl (lv_at hl 2 rfl) ?_
          refine lv_iload_n hx hb dX5_lotBlock_23 rfl (lv_at hl 1 rfl) ?_
          refine lv_icmp_ne (tgt := 29) hx hb dX5_lotBlock_24 (by decide) (fun c4 => ?_) (fun c4 => ?_)
          · replace hf := oe hf c4
            refine lv_iinc (v := (x2 + (1 : Int32))) (lv' := [(2, .int (x2 + (1 : Int32))), (0, .ref q_this), (1, .int x1), (3, .int x3)]) hx hb dX5_lotBlock_29 hl (k := 2) rfl rfl (by decide) rfl (fun ls hl => ?_)
            exact hJ32 (x2 + (1 : Int32)) hf ls (lv_sub hl [1, 2, 0, 3] rfl)
          · replace hf := ot hf c4
            refine lv_iload_n hx hb dX5_lotBlock_27 rfl (lv_at hl 3 rfl) ?_
            have hf := KR _ (hexit _ (osi hf).symm).symm
            exact x_iR hx hb hr hlocks hf dX5_lotBlock_28
  refine lv_iconst (v := (0 : Int32)) hx hb dX5_lotBlock_0 (by decide) ?_
  refine lv_istore_n (lv' := [(2, .int (0 : Int32)), (0, .ref q_this), (1, .int x1)]) hx hb dX5_lotBlock_1 rfl hl (by decide) rfl (fun ls hl => ?_)
  refine lv_iconst (v := (0 : Int32)) hx hb dX5_lotBlock_2 (by decide) ?_
  refine lv_istore_n (lv' := [(3, .int (0 : Int32)), (2, .int (0 : Int32)), (0, .ref q_this), (1, .int x1)]) hx hb dX5_lotBlock_3 rfl hl (by decide) rfl (fun ls hl => ?_)
  obtain ⟨e5, hp5, hf⟩ := ob hf
  exact hL4 N (0 : Int32) (0 : Int32) e5 hp5 ls (lv_sub hl [2, 3, 1, 0] rfl) (fun q9 h9 => by subst h9; exact osi hf)
def f_X5_nameAt (vsizes : Nat → Int32) (vorders : Nat → Int32) (x1 : Int32) (x2 : Int32) : Option (Int32) := (if x2 < 0 then some (-1 : Int32) else (if x1 < 0 ∨ 6 ≤ x1.toNatClampNeg then none else (if (vsizes x1.toNatClampNeg) ≤ x2 then some (-1 : Int32) else (if ((x1 * (5 : Int32)) + x2) < 0 ∨ 30 ≤ ((x1 * (5 : Int32)) + x2).toNatClampNeg then none else some (vorders ((x1 * (5 : Int32)) + x2).toNatClampNeg)))))
def w_X5_nameAt (cI cJ cB : ClassId) (q_this q_members q_moves q_digits q_sizes q_orders q_above q_below q_struck q_lots : Nat) (vblocks : Int32) (vsizes : Nat → Int32) (vorders : Nat → Int32) : va_W := [(q_this, .inr (5, [.int vblocks, .ref q_members, .ref q_moves, .ref q_digits, .ref q_sizes, .ref q_orders, .ref q_above, .ref q_below, .ref q_struck, .ref q_lots])), (q_sizes, .inl (cI, 6, .inl vsizes)), (q_orders, .inl (cI, 30, .inl vorders))]
set_option maxHeartbeats 4000000 in
set_option maxRecDepth 100000 in
theorem c_X5_nameAt (l : Launch) (dC : Nat → ClassId) (dI : Nat → Nat → Nat) (cI cJ cB : ClassId) (q_this q_members q_moves q_digits q_sizes q_orders q_above q_below q_struck q_lots : Nat) (vblocks : Int32) (vsizes : Nat → Int32) (vorders : Nat → Int32) (x1 : Int32) (x2 : Int32) {r : Int32} (hf : f_X5_nameAt vsizes vorders x1 x2 = some r) : Met l yX5_nameAt (Cond.code yX5_nameAt cX5_nameAt 3 (some .int) :: wsL_law) (kR 0) (va_Pc [.ref q_this, .int x1, .int x2] (pR (dC, dI) cI cJ cB (w_X5_nameAt cI cJ cB q_this q_members q_moves q_digits q_sizes q_orders q_above q_below q_struck q_lots vblocks vsizes vorders))) (qRi r) 0 0 (fun _ => False) := by
  refine k_ro (cc := cX5_nameAt) (n := 3) (ret := (some .int)) (by decide) (Nat.le_of_ble_eq_true rfl) ?_
  intro p e s m args below meth c ls hx hb hr hml hts hown hlocks hK hP hl
  have hP : va_P (dC, dI) classes [(q_this, .inr (5, [.int vblocks, .ref q_members, .ref q_moves, .ref q_digits, .ref q_sizes, .ref q_orders, .ref q_above, .ref q_below, .ref q_struck, .ref q_lots])), (q_sizes, .inl (cI, 6, .inl vsizes)), (q_orders, .inl (cI, 30, .inl vorders))] s.heap := hP
  have hG : ∀ w ∈ wsL_law, w.before args s = true := fun w h => hts w (List.mem_cons_of_mem _ h)
  have hown : s.vm.findClass RX5 = some m.cls := hown
  have hl : lv_has ls 3 [(0, .ref q_this), (1, .int x1), (2, .int x2)] := hl
  unfold f_X5_nameAt at hf
  refine lv_iload_n hx hb dX5_nameAt_0 rfl (lv_at hl 2 rfl) ?_
  refine lv_if_lt (tgt := 27) hx hb dX5_nameAt_1 (by decide) (fun c1 => ?_) (fun c1 => ?_)
  · replace hf := ot hf c1
    refine lv_iconst (v := (-1 : Int32)) hx hb dX5_nameAt_27 (by decide) ?_
    have hf := osi hf
    exact x_iR hx hb hr hlocks hf dX5_nameAt_28
  · replace hf := oe hf c1
    refine lv_iload_n hx hb dX5_nameAt_4 rfl (lv_at hl 2 rfl) ?_
    refine lv_aload_n hx hb dX5_nameAt_5 rfl (lv_at hl 0 rfl) ?_
    refine p_get (D := (dC, dI)) (ci := 5) (v := .ref q_sizes) (C := RX5) (T := TX5) (N := 10) 4 fX5_4 hx hb hG inlX5 hown hK.1 hP 0 rfl rfl (by decide) (hG _ mw_56) rfl dX5_nameAt_6 ?_
    refine lv_iload_n hx hb dX5_nameAt_9 rfl (lv_at hl 1 rfl) ?_
    obtain ⟨g2, hf⟩ := og hf
    refine va_iald hx hb hK.1 hP 1 0 rfl rfl g2 dX5_nameAt_10 ?_
    refine lv_icmp_ge (tgt := 27) hx hb dX5_nameAt_11 (by decide) (fun c3 => ?_) (fun c3 => ?_)
    · replace hf := ot hf c3
      refine lv_iconst (v := (-1 : Int32)) hx hb dX5_nameAt_27 (by decide) ?_
      have hf := osi hf
      exact x_iR hx hb hr hlocks hf dX5_nameAt_28
    · replace hf := oe hf c3
      refine lv_aload_n hx hb dX5_nameAt_14 rfl (lv_at hl 0 rfl) ?_
      refine p_get (D := (dC, dI)) (ci := 5) (v := .ref q_orders) (C := RX5) (T := TX5) (N := 10) 5 fX5_5 hx hb hG inlX5 hown hK.1 hP 0 rfl rfl (by decide) (hG _ mw_57) rfl dX5_nameAt_15 ?_
      refine lv_iload_n hx hb dX5_nameAt_18 rfl (lv_at hl 1 rfl) ?_
      refine lv_iconst (v := (5 : Int32)) hx hb dX5_nameAt_19 (by decide) ?_
      refine lv_imul hx hb dX5_nameAt_20 ?_
      refine lv_iload_n hx hb dX5_nameAt_21 rfl (lv_at hl 2 rfl) ?_
      refine lv_iadd hx hb dX5_nameAt_22 ?_
      obtain ⟨g4, hf⟩ := og hf
      refine va_iald hx hb hK.1 hP 2 0 rfl rfl g4 dX5_nameAt_23 ?_
      refine lv_goto (tgt := 28) hx hb dX5_nameAt_24 (by decide) ?_
      have hf := osi hf
      exact x_iR hx hb hr hlocks hf dX5_nameAt_28
def f_X5_preferring_L61 (x4 : Int32) (x3 : Int32) : Option ((Int32 × Int32) ⊕ (Int32)) := some (.inl (x3, (x4 + (1 : Int32))))
def f_X5_preferring_L51 (vmembers : Nat → Int32) (x3 : Int32) (x4 : Int32) : Option ((Int32 × Int32) ⊕ (Int32)) := (if x4 < 0 ∨ 6 ≤ x4.toNatClampNeg then none else (f_X5_preferring_L61 x4 (x3 + (vmembers x4.toNatClampNeg))))
def f_X5_preferring_B5 (N : Nat) (vblocks : Int32) (vmembers : Nat → Int32) (vsizes : Nat → Int32) (vorders : Nat → Int32) (x1 : Int32) (x2 : Int32) (x3 : Int32) (x4 : Int32) : Option ((Int32 × Int32) ⊕ (Int32)) := (if vblocks ≤ x4 then some (.inr x3) else ((f_X5_place N vsizes vorders x4 x1).bind (fun u3 => ((f_X5_place N vsizes vorders x4 x2).bind (fun u4 => (if u3 = (-1 : Int32) then (f_X5_preferring_L61 x4 x3) else (if u4 = (-1 : Int32) then (f_X5_preferring_L51 vmembers x3 x4) else (if u4 ≤ u3 then (f_X5_preferring_L61 x4 x3) else (f_X5_preferring_L51 vmembers x3 x4)))))))))
def f_X5_preferring (N : Nat) (vblocks : Int32) (vmembers : Nat → Int32) (vsizes : Nat → Int32) (vorders : Nat → Int32) (x1 : Int32) (x2 : Int32) : Option (Int32) := ((lp (fun s => f_X5_preferring_B5 N vblocks vmembers vsizes vorders x1 x2 s.1 s.2) N ((0 : Int32), (0 : Int32))).bind (fun e8 => some e8))
def w_X5_preferring (cI cJ cB : ClassId) (q_this q_members q_moves q_digits q_sizes q_orders q_above q_below q_struck q_lots : Nat) (vblocks : Int32) (vmembers : Nat → Int32) (vsizes : Nat → Int32) (vorders : Nat → Int32) : va_W := [(q_this, .inr (5, [.int vblocks, .ref q_members, .ref q_moves, .ref q_digits, .ref q_sizes, .ref q_orders, .ref q_above, .ref q_below, .ref q_struck, .ref q_lots])), (q_members, .inl (cI, 6, .inl vmembers)), (q_sizes, .inl (cI, 6, .inl vsizes)), (q_orders, .inl (cI, 30, .inl vorders))]
set_option maxHeartbeats 4000000 in
set_option maxRecDepth 100000 in
theorem c_X5_preferring (l : Launch) (dC : Nat → ClassId) (dI : Nat → Nat → Nat) (cI cJ cB : ClassId) (q_this q_members q_moves q_digits q_sizes q_orders q_above q_below q_struck q_lots : Nat) (vblocks : Int32) (vmembers : Nat → Int32) (vsizes : Nat → Int32) (vorders : Nat → Int32) (x1 : Int32) (x2 : Int32) {N : Nat} {r : Int32} (hf : f_X5_preferring N vblocks vmembers vsizes vorders x1 x2 = some r) : Met l yX5_preferring (Cond.code yX5_preferring cX5_preferring 7 (some .int) :: wsL_law) (kR 1) (va_Pc [.ref q_this, .int x1, .int x2] (pR (dC, dI) cI cJ cB (w_X5_preferring cI cJ cB q_this q_members q_moves q_digits q_sizes q_orders q_above q_below q_struck q_lots vblocks vmembers vsizes vorders))) (qRi r) 0 0 (fun _ => False) := by
  refine k_ro (cc := cX5_preferring) (n := 7) (ret := (some .int)) (by decide) (Nat.le_of_ble_eq_true rfl) ?_
  intro p e s m args below meth c ls hx hb hr hml hts hown hlocks hK hP hl
  have hP : va_P (dC, dI) classes [(q_this, .inr (5, [.int vblocks, .ref q_members, .ref q_moves, .ref q_digits, .ref q_sizes, .ref q_orders, .ref q_above, .ref q_below, .ref q_struck, .ref q_lots])), (q_members, .inl (cI, 6, .inl vmembers)), (q_sizes, .inl (cI, 6, .inl vsizes)), (q_orders, .inl (cI, 30, .inl vorders))] s.heap := hP
  have hG : ∀ w ∈ wsL_law, w.before args s = true := fun w h => hts w (List.mem_cons_of_mem _ h)
  have hown : s.vm.findClass RX5 = some m.cls := hown
  have hl : lv_has ls 7 [(0, .ref q_this), (1, .int x1), (2, .int x2)] := hl
  unfold f_X5_preferring at hf
  have hL5 : ∀ (n : Nat) (x3 : Int32) (x4 : Int32) (res5 : Int32), lp (fun s => f_X5_preferring_B5 N vblocks vmembers vsizes vorders x1 x2 s.1 s.2) n (x3, x4) = some res5 → ∀ (ls : Array Slot), lv_has ls 7 [(0, .ref q_this), (1, .int x1), (2, .int x2), (3, .int x3), (4, .int x4)] → (∀ q9 : Int32, res5 = q9 → q9 = r) → W p l e (kR 1) s m args below meth c s.heap [] 0 0 (MQ below (qRi r) args s 0 0 (fun _ => False)) (F0 m 5 ls []) := by
    intro n
    induction n with
    | zero => intro x3 x4 res5 h9; exact (lp_zero h9).elim
    | succ n ih =>
      intro x3 x4 res5 h9 ls hl KR
      obtain ⟨o5, hf, hnext, hexit⟩ := lp_succ h9
      have hf : f_X5_preferring_B5 N vblocks vmembers vsizes vorders x1 x2 x3 x4 = some o5 := hf
      unfold f_X5_preferring_B5 at hf
      have hJ61 : ∀ (x3 : Int32), f_X5_preferring_L61 x4 x3 = some o5 → ∀ (ls : Array Slot), lv_has ls 7 [(0, .ref q_this), (1, .int x1), (2, .int x2), (3, .int x3), (4, .int x4)] → W p l e (kR 1) s m args below meth c s.heap [] 0 0 (MQ below (qRi r) args s 0 0 (fun _ => False)) (F0 m 61 ls []) := by
        intro x3 hf ls hl
        unfold f_X5_preferring_L61 at hf
        refine lv_iinc (v := (x4 + (1 : Int32))) (lv' := [(4, .int (x4 + (1 : Int32))), (0, .ref q_this), (1, .int x1), (2, .int x2), (3, .int x3)]) hx hb dX5_preferring_61 hl (k := 4) rfl rfl (by decide) rfl (fun ls hl => ?_)
        refine lv_goto (tgt := 5) hx hb dX5_preferring_64 (by decide) ?_
        exact ih x3 (x4 + (1 : Int32)) res5 (hnext _ (osi hf).symm) ls (lv_sub hl [1, 2, 3, 4, 0] rfl) KR
      have hJ51 : f_X5_preferring_L51 vmembers x3 x4 = some o5 → ∀ (ls : Array Slot), lv_has ls 7 [(0, .ref q_this), (1, .int x1), (2, .int x2), (3, .int x3), (4, .int x4)] → W p l e (kR 1) s m args below meth c s.heap [] 0 0 (MQ below (qRi r) args s 0 0 (fun _ => False)) (F0 m 51 ls []) := by
        intro  hf ls hl
        unfold f_X5_preferring_L51 at hf
        refine lv_iload_n hx hb dX5_preferring_51 rfl (lv_at hl 3 rfl) ?_
        refine lv_aload_n hx hb dX5_preferring_52 rfl (lv_at hl 0 rfl) ?_
        refine p_get (D := (dC, dI)) (ci := 5) (v := .ref q_members) (C := RX5) (T := TX5) (N := 10) 1 fX5_1 hx hb hG inlX5 hown hK.1 hP 0 rfl rfl (by decide) (hG _ mw_53) rfl dX5_preferring_53 ?_
        refine lv_iload hx hb dX5_preferring_56 (lv_at hl 4 rfl) ?_
        obtain ⟨g1, hf⟩ := og hf
        refine va_iald hx hb hK.1 hP 1 0 rfl rfl g1 dX5_preferring_58 ?_
        refine lv_iadd hx hb dX5_preferring_59 ?_
        refine lv_istore_n (lv' := [(3, .int (x3 + (vmembers x4.toNatClampNeg))), (0, .ref q_this), (1, .int x1), (2, .int x2), (4, .int x4)]) hx hb dX5_preferring_60 rfl hl (by decide) rfl (fun ls hl => ?_)
        exact hJ61 (x3 + (vmembers x4.toNatClampNeg)) hf ls (lv_sub hl [1, 2, 3, 0, 4] rfl)
      refine lv_iload hx hb dX5_preferring_5 (lv_at hl 4 rfl) ?_
      refine lv_aload_n hx hb dX5_preferring_7 rfl (lv_at hl 0 rfl) ?_
      refine p_get (D := (dC, dI)) (ci := 5) (v := .int vblocks) (C := RX5) (T := TX5) (N := 10) 0 fX5_0 hx hb hG inlX5 hown hK.1 hP 0 rfl rfl (by decide) (hG _ mw_52) rfl dX5_preferring_8 ?_
      refine lv_icmp_ge (tgt := 67) hx hb dX5_preferring_11 (by decide) (fun c2 => ?_) (fun c2 => ?_)
      · replace hf := ot hf c2
        refine lv_iload_n hx hb dX5_preferring_67 rfl (lv_at hl 3 rfl) ?_
        have hf := KR _ (hexit _ (osi hf).symm).symm
        exact x_iR hx hb hr hlocks hf dX5_preferring_68
      · replace hf := oe hf c2
        refine lv_aload_n hx hb dX5_preferring_14 rfl (lv_at hl 0 rfl) ?_
        refine lv_iload hx hb dX5_preferring_15 (lv_at hl 4 rfl) ?_
        refine lv_iload_n hx hb dX5_preferring_17 rfl (lv_at hl 1 rfl) ?_
        obtain ⟨u3, hu3, hf⟩ := ob hf
        refine k_Vi (As := [.int x4, .int x1]) (rest := []) ⟨hx, hb, hml, hown, hts⟩ hK hP [0, 2, 3] rfl (c_X5_place l dC dI cI cJ cB q_this q_members q_moves q_digits q_sizes q_orders q_above q_below q_struck q_lots vblocks vsizes vorders x4 x1 hu3) (gl_X5_67 hts ⟨(Nat.le_of_ble_eq_true rfl), (Nat.le_of_ble_eq_true rfl)⟩) 0 5 rfl rfl rfl rfl hl.1 rfl (Nat.le_of_ble_eq_true rfl) dX5_preferring_18 ⟨Nat.zero_le _, Nat.zero_le _⟩ ?_
        refine lv_istore (lv' := [(5, .int u3), (0, .ref q_this), (1, .int x1), (2, .int x2), (3, .int x3), (4, .int x4)]) hx hb dX5_preferring_21 hl (by decide) rfl (fun ls hl => ?_)
        refine lv_aload_n hx hb dX5_preferring_23 rfl (lv_at hl 1 rfl) ?_
        refine lv_iload hx hb dX5_preferring_24 (lv_at hl 5 rfl) ?_
        refine lv_iload_n hx hb dX5_preferring_26 rfl (lv_at hl 3 rfl) ?_
        obtain ⟨u4, hu4, hf⟩ := ob hf
        refine k_Vi (As := [.int x4, .int x2]) (rest := []) ⟨hx, hb, hml, hown, hts⟩ hK hP [0, 2, 3] rfl (c_X5_place l dC dI cI cJ cB q_this q_members q_moves q_digits q_sizes q_orders q_above q_below q_struck q_lots vblocks vsizes vorders x4 x2 hu4) (gl_X5_67 hts ⟨(Nat.le_of_ble_eq_true rfl), (Nat.le_of_ble_eq_true rfl)⟩) 0 5 rfl rfl rfl rfl hl.1 rfl (Nat.le_of_ble_eq_true rfl) dX5_preferring_27 ⟨Nat.zero_le _, Nat.zero_le _⟩ ?_
        refine lv_istore (lv' := [(6, .int u4), (5, .int u3), (0, .ref q_this), (1, .int x1), (2, .int x2), (3, .int x3), (4, .int x4)]) hx hb dX5_preferring_30 hl (by decide) rfl (fun ls hl => ?_)
        refine lv_iload hx hb dX5_preferring_32 (lv_at hl 1 rfl) ?_
        refine lv_iconst (v := (-1 : Int32)) hx hb dX5_preferring_34 (by decide) ?_
        refine lv_icmp_eq (tgt := 61) hx hb dX5_preferring_35 (by decide) (fun c5 => ?_) (fun c5 => ?_)
        · replace hf := ot hf c5
          exact hJ61 x3 hf ls (lv_sub hl [2, 3, 4, 5, 6] rfl)
        · replace hf := oe hf c5
          refine lv_iload hx hb dX5_preferring_38 (lv_at hl 0 rfl) ?_
          refine lv_iconst (v := (-1 : Int32)) hx hb dX5_preferring_40 (by decide) ?_
          refine lv_icmp_eq (tgt := 51) hx hb dX5_preferring_41 (by decide) (fun c6 => ?_) (fun c6 => ?_)
          · replace hf := ot hf c6
            exact hJ51  hf ls (lv_sub hl [2, 3, 4, 5, 6] rfl)
          · replace hf := oe hf c6
            refine lv_iload hx hb dX5_preferring_44 (lv_at hl 1 rfl) ?_
            refine lv_iload hx hb dX5_preferring_46 (lv_at hl 0 rfl) ?_
            refine lv_icmp_ge (tgt := 61) hx hb dX5_preferring_48 (by decide) (fun c7 => ?_) (fun c7 => ?_)
            · replace hf := ot hf c7
              exact hJ61 x3 hf ls (lv_sub hl [2, 3, 4, 5, 6] rfl)
            · replace hf := oe hf c7
              exact hJ51  hf ls (lv_sub hl [2, 3, 4, 5, 6] rfl)
  refine lv_iconst (v := (0 : Int32)) hx hb dX5_preferring_0 (by decide) ?_
  refine lv_istore_n (lv' := [(3, .int (0 : Int32)), (0, .ref q_this), (1, .int x1), (2, .int x2)]) hx hb dX5_preferring_1 rfl hl (by decide) rfl (fun ls hl => ?_)
  refine lv_iconst (v := (0 : Int32)) hx hb dX5_preferring_2 (by decide) ?_
  refine lv_istore (lv' := [(4, .int (0 : Int32)), (3, .int (0 : Int32)), (0, .ref q_this), (1, .int x1), (2, .int x2)]) hx hb dX5_preferring_3 hl (by decide) rfl (fun ls hl => ?_)
  obtain ⟨e8, hp8, hf⟩ := ob hf
  exact hL5 N (0 : Int32) (0 : Int32) e8 hp8 ls (lv_sub hl [2, 3, 4, 1, 0] rfl) (fun q9 h9 => by subst h9; exact osi hf)
def f_X5_takeBlocks (vmembers : Nat → Int32) (vmoves : Nat → Int32) (vdigits : Nat → Int32) (vsizes : Nat → Int32) (vorders : Nat → Int32) (vp1_blocks : Int32) (vp1_members : Nat → Int32) (vp1_moves : Nat → Int32) (vp1_digits : Nat → Int32) (vp1_sizes : Nat → Int32) (vp1_orders : Nat → Int32) : Option (Int32 × (Nat → Int32) × (Nat → Int32) × (Nat → Int32) × (Nat → Int32) × (Nat → Int32)) := some (vp1_blocks, (va_cpy vp1_members vmembers (0 : Int32).toNatClampNeg (0 : Int32).toNatClampNeg (6 : Int32).toNatClampNeg), (va_cpy vp1_moves vmoves (0 : Int32).toNatClampNeg (0 : Int32).toNatClampNeg (6 : Int32).toNatClampNeg), (va_cpy vp1_digits vdigits (0 : Int32).toNatClampNeg (0 : Int32).toNatClampNeg (6 : Int32).toNatClampNeg), (va_cpy vp1_sizes vsizes (0 : Int32).toNatClampNeg (0 : Int32).toNatClampNeg (6 : Int32).toNatClampNeg), (va_cpy vp1_orders vorders (0 : Int32).toNatClampNeg (0 : Int32).toNatClampNeg (30 : Int32).toNatClampNeg))
def w_X5_takeBlocks (cI cJ cB : ClassId) (q_this q_p1 q_members q_moves q_digits q_sizes q_orders q_above q_below q_struck q_lots q_p1_members q_p1_moves q_p1_digits q_p1_sizes q_p1_orders q_p1_above q_p1_below q_p1_struck q_p1_lots : Nat) (vblocks : Int32) (vmembers : Nat → Int32) (vmoves : Nat → Int32) (vdigits : Nat → Int32) (vsizes : Nat → Int32) (vorders : Nat → Int32) (vp1_blocks : Int32) (vp1_members : Nat → Int32) (vp1_moves : Nat → Int32) (vp1_digits : Nat → Int32) (vp1_sizes : Nat → Int32) (vp1_orders : Nat → Int32) : va_W := [(q_this, .inr (5, [.int vblocks, .ref q_members, .ref q_moves, .ref q_digits, .ref q_sizes, .ref q_orders, .ref q_above, .ref q_below, .ref q_struck, .ref q_lots])), (q_members, .inl (cI, 6, .inl vmembers)), (q_moves, .inl (cI, 6, .inl vmoves)), (q_digits, .inl (cI, 6, .inl vdigits)), (q_sizes, .inl (cI, 6, .inl vsizes)), (q_orders, .inl (cI, 30, .inl vorders)), (q_p1, .inr (5, [.int vp1_blocks, .ref q_p1_members, .ref q_p1_moves, .ref q_p1_digits, .ref q_p1_sizes, .ref q_p1_orders, .ref q_p1_above, .ref q_p1_below, .ref q_p1_struck, .ref q_p1_lots])), (q_p1_members, .inl (cI, 6, .inl vp1_members)), (q_p1_moves, .inl (cI, 6, .inl vp1_moves)), (q_p1_digits, .inl (cI, 6, .inl vp1_digits)), (q_p1_sizes, .inl (cI, 6, .inl vp1_sizes)), (q_p1_orders, .inl (cI, 30, .inl vp1_orders))]
set_option maxHeartbeats 4000000 in
set_option maxRecDepth 100000 in
theorem c_X5_takeBlocks (l : Launch) (dC : Nat → ClassId) (dI : Nat → Nat → Nat) (cI cJ cB : ClassId) (q_this q_p1 q_members q_moves q_digits q_sizes q_orders q_above q_below q_struck q_lots q_p1_members q_p1_moves q_p1_digits q_p1_sizes q_p1_orders q_p1_above q_p1_below q_p1_struck q_p1_lots : Nat) (vblocks : Int32) (vmembers : Nat → Int32) (vmoves : Nat → Int32) (vdigits : Nat → Int32) (vsizes : Nat → Int32) (vorders : Nat → Int32) (vp1_blocks : Int32) (vp1_members : Nat → Int32) (vp1_moves : Nat → Int32) (vp1_digits : Nat → Int32) (vp1_sizes : Nat → Int32) (vp1_orders : Nat → Int32) (sz : Nat) {r : Int32 × (Nat → Int32) × (Nat → Int32) × (Nat → Int32) × (Nat → Int32) × (Nat → Int32)} (hf : f_X5_takeBlocks vmembers vmoves vdigits vsizes vorders vp1_blocks vp1_members vp1_moves vp1_digits vp1_sizes vp1_orders = some r) : Met l yX5_takeBlocks (Cond.code yX5_takeBlocks cX5_takeBlocks 2 none :: wsL_law) (kR 1) (va_Pc [.ref q_this, .ref q_p1] (pW (dC, dI) cI cJ cB (w_X5_takeBlocks cI cJ cB q_this q_p1 q_members q_moves q_digits q_sizes q_orders q_above q_below q_struck q_lots q_p1_members q_p1_moves q_p1_digits q_p1_sizes q_p1_orders q_p1_above q_p1_below q_p1_struck q_p1_lots vblocks vmembers vmoves vdigits vsizes vorders vp1_blocks vp1_members vp1_moves vp1_digits vp1_sizes vp1_orders) sz)) (qWv (fun w => w = (w_X5_takeBlocks cI cJ cB q_this q_p1 q_members q_moves q_digits q_sizes q_orders q_above q_below q_struck q_lots q_p1_members q_p1_moves q_p1_digits q_p1_sizes q_p1_orders q_p1_above q_p1_below q_p1_struck q_p1_lots r.1 r.2.1 r.2.2.1 r.2.2.2.1 r.2.2.2.2.1 r.2.2.2.2.2 vp1_blocks vp1_members vp1_moves vp1_digits vp1_sizes vp1_orders)) (dC, dI) (va_A (w_X5_takeBlocks cI cJ cB q_this q_p1 q_members q_moves q_digits q_sizes q_orders q_above q_below q_struck q_lots q_p1_members q_p1_moves q_p1_digits q_p1_sizes q_p1_orders q_p1_above q_p1_below q_p1_struck q_p1_lots vblocks vmembers vmoves vdigits vsizes vorders vp1_blocks vp1_members vp1_moves vp1_digits vp1_sizes vp1_orders) sz)) 0 0 (va_A (w_X5_takeBlocks cI cJ cB q_this q_p1 q_members q_moves q_digits q_sizes q_orders q_above q_below q_struck q_lots q_p1_members q_p1_moves q_p1_digits q_p1_sizes q_p1_orders q_p1_above q_p1_below q_p1_struck q_p1_lots vblocks vmembers vmoves vdigits vsizes vorders vp1_blocks vp1_members vp1_moves vp1_digits vp1_sizes vp1_orders) sz) := by
  refine k_wr (Qc := fun A => (qWv (fun w => w = (w_X5_takeBlocks cI cJ cB q_this q_p1 q_members q_moves q_digits q_sizes q_orders q_above q_below q_struck q_lots q_p1_members q_p1_moves q_p1_digits q_p1_sizes q_p1_orders q_p1_above q_p1_below q_p1_struck q_p1_lots r.1 r.2.1 r.2.2.1 r.2.2.2.1 r.2.2.2.2.1 r.2.2.2.2.2 vp1_blocks vp1_members vp1_moves vp1_digits vp1_sizes vp1_orders)) (dC, dI) A)) (cc := cX5_takeBlocks) (n := 2) (ret := none) (by decide) (Nat.le_of_ble_eq_true rfl) ?_
  intro p e s m args below meth c ls A hx hb hr hml hts hown hlocks hnm hA hK hP hD hS hl
  have hD : va_D A [(q_this, .inr (5, [.int vblocks, .ref q_members, .ref q_moves, .ref q_digits, .ref q_sizes, .ref q_orders, .ref q_above, .ref q_below, .ref q_struck, .ref q_lots])), (q_members, .inl (cI, 6, .inl vmembers)), (q_moves, .inl (cI, 6, .inl vmoves)), (q_digits, .inl (cI, 6, .inl vdigits)), (q_sizes, .inl (cI, 6, .inl vsizes)), (q_orders, .inl (cI, 30, .inl vorders)), (q_p1, .inr (5, [.int vp1_blocks, .ref q_p1_members, .ref q_p1_moves, .ref q_p1_digits, .ref q_p1_sizes, .ref q_p1_orders, .ref q_p1_above, .ref q_p1_below, .ref q_p1_struck, .ref q_p1_lots])), (q_p1_members, .inl (cI, 6, .inl vp1_members)), (q_p1_moves, .inl (cI, 6, .inl vp1_moves)), (q_p1_digits, .inl (cI, 6, .inl vp1_digits)), (q_p1_sizes, .inl (cI, 6, .inl vp1_sizes)), (q_p1_orders, .inl (cI, 30, .inl vp1_orders))] := hD
  have hP : va_P (dC, dI) classes [(q_this, .inr (5, [.int vblocks, .ref q_members, .ref q_moves, .ref q_digits, .ref q_sizes, .ref q_orders, .ref q_above, .ref q_below, .ref q_struck, .ref q_lots])), (q_members, .inl (cI, 6, .inl vmembers)), (q_moves, .inl (cI, 6, .inl vmoves)), (q_digits, .inl (cI, 6, .inl vdigits)), (q_sizes, .inl (cI, 6, .inl vsizes)), (q_orders, .inl (cI, 30, .inl vorders)), (q_p1, .inr (5, [.int vp1_blocks, .ref q_p1_members, .ref q_p1_moves, .ref q_p1_digits, .ref q_p1_sizes, .ref q_p1_orders, .ref q_p1_above, .ref q_p1_below, .ref q_p1_struck, .ref q_p1_lots])), (q_p1_members, .inl (cI, 6, .inl vp1_members)), (q_p1_moves, .inl (cI, 6, .inl vp1_moves)), (q_p1_digits, .inl (cI, 6, .inl vp1_digits)), (q_p1_sizes, .inl (cI, 6, .inl vp1_sizes)), (q_p1_orders, .inl (cI, 30, .inl vp1_orders))] s.heap := hP
  have hG : ∀ w ∈ wsL_law, w.before args s = true := fun w h => hts w (List.mem_cons_of_mem _ h)
  have hown : s.vm.findClass RX5 = some m.cls := hown
  have hl : lv_has ls 2 [(0, .ref q_this), (1, .ref q_p1)] := hl
  unfold f_X5_takeBlocks at hf
  refine lv_aload_n hx hb dX5_takeBlocks_0 rfl (lv_at hl 0 rfl) ?_
  refine lv_aload_n hx hb dX5_takeBlocks_1 rfl (lv_at hl 1 rfl) ?_
  refine p_get (D := (dC, dI)) (ci := 5) (v := .int vp1_blocks) (C := RX5) (T := TX5) (N := 10) 0 fX5_0 hx hb hG inlX5 hown hK.1 hP 6 rfl rfl (by decide) (hG _ mw_52) rfl dX5_takeBlocks_2 ?_
  refine p_put (D := (dC, dI)) (ci := 5) (v := .int vp1_blocks) (ty := .int) (C := RX5) (T := TX5) (N := 10) 0 fX5_0 hx hb hG inlX5 tyX5 tyX5_ok nmX5 hown hK.1 hP hD hS 0 rfl rfl (by decide) (hG _ mw_52) rfl (by decide +kernel) rfl rfl (Nat.le_of_ble_eq_true rfl) dX5_takeBlocks_5 (fun H locs hP hD hS => ?_)
  have hP : va_P (dC, dI) classes [(q_this, .inr (5, [.int vp1_blocks, .ref q_members, .ref q_moves, .ref q_digits, .ref q_sizes, .ref q_orders, .ref q_above, .ref q_below, .ref q_struck, .ref q_lots])), (q_members, .inl (cI, 6, .inl vmembers)), (q_moves, .inl (cI, 6, .inl vmoves)), (q_digits, .inl (cI, 6, .inl vdigits)), (q_sizes, .inl (cI, 6, .inl vsizes)), (q_orders, .inl (cI, 30, .inl vorders)), (q_p1, .inr (5, [.int vp1_blocks, .ref q_p1_members, .ref q_p1_moves, .ref q_p1_digits, .ref q_p1_sizes, .ref q_p1_orders, .ref q_p1_above, .ref q_p1_below, .ref q_p1_struck, .ref q_p1_lots])), (q_p1_members, .inl (cI, 6, .inl vp1_members)), (q_p1_moves, .inl (cI, 6, .inl vp1_moves)), (q_p1_digits, .inl (cI, 6, .inl vp1_digits)), (q_p1_sizes, .inl (cI, 6, .inl vp1_sizes)), (q_p1_orders, .inl (cI, 30, .inl vp1_orders))] H := hP
  have hD : va_D A [(q_this, .inr (5, [.int vp1_blocks, .ref q_members, .ref q_moves, .ref q_digits, .ref q_sizes, .ref q_orders, .ref q_above, .ref q_below, .ref q_struck, .ref q_lots])), (q_members, .inl (cI, 6, .inl vmembers)), (q_moves, .inl (cI, 6, .inl vmoves)), (q_digits, .inl (cI, 6, .inl vdigits)), (q_sizes, .inl (cI, 6, .inl vsizes)), (q_orders, .inl (cI, 30, .inl vorders)), (q_p1, .inr (5, [.int vp1_blocks, .ref q_p1_members, .ref q_p1_moves, .ref q_p1_digits, .ref q_p1_sizes, .ref q_p1_orders, .ref q_p1_above, .ref q_p1_below, .ref q_p1_struck, .ref q_p1_lots])), (q_p1_members, .inl (cI, 6, .inl vp1_members)), (q_p1_moves, .inl (cI, 6, .inl vp1_moves)), (q_p1_digits, .inl (cI, 6, .inl vp1_digits)), (q_p1_sizes, .inl (cI, 6, .inl vp1_sizes)), (q_p1_orders, .inl (cI, 30, .inl vp1_orders))] := hD
  refine lv_aload_n hx hb dX5_takeBlocks_8 rfl (lv_at hl 1 rfl) ?_
  refine p_get (D := (dC, dI)) (ci := 5) (v := .ref q_p1_members) (C := RX5) (T := TX5) (N := 10) 1 fX5_1 hx hb hG inlX5 hown hK.1 hP 6 rfl rfl (by decide) (hG _ mw_53) rfl dX5_takeBlocks_9 ?_
  refine lv_iconst (v := (0 : Int32)) hx hb dX5_takeBlocks_12 (by decide) ?_
  refine lv_aload_n hx hb dX5_takeBlocks_13 rfl (lv_at hl 0 rfl) ?_
  refine p_get (D := (dC, dI)) (ci := 5) (v := .ref q_members) (C := RX5) (T := TX5) (N := 10) 1 fX5_1 hx hb hG inlX5 hown hK.1 hP 0 rfl rfl (by decide) (hG _ mw_53) rfl dX5_takeBlocks_14 ?_
  refine lv_iconst (v := (0 : Int32)) hx hb dX5_takeBlocks_17 (by decide) ?_
  refine lv_bipush (v := (6 : Int32)) hx hb dX5_takeBlocks_18 (by decide) ?_
  refine va_copyi hx hb (hml.trans hl.1.symm) hown (hG _ mw_234) (hG _ mw_235) (hG _ mw_236) (hG _ mw_237) hK.1 hP hD hS 7 1 0 0 rfl rfl rfl rfl rfl (by decide) (by decide) (by decide) (by decide) (by decide) (fun _ _ => rfl) (Nat.le_of_ble_eq_true rfl) (Nat.le_of_ble_eq_true rfl) dX5_takeBlocks_20 (fun H locs hP hD hS => ?_)
  have hP : va_P (dC, dI) classes [(q_this, .inr (5, [.int vp1_blocks, .ref q_members, .ref q_moves, .ref q_digits, .ref q_sizes, .ref q_orders, .ref q_above, .ref q_below, .ref q_struck, .ref q_lots])), (q_members, .inl (cI, 6, .inl (va_cpy vp1_members vmembers (0 : Int32).toNatClampNeg (0 : Int32).toNatClampNeg (6 : Int32).toNatClampNeg))), (q_moves, .inl (cI, 6, .inl vmoves)), (q_digits, .inl (cI, 6, .inl vdigits)), (q_sizes, .inl (cI, 6, .inl vsizes)), (q_orders, .inl (cI, 30, .inl vorders)), (q_p1, .inr (5, [.int vp1_blocks, .ref q_p1_members, .ref q_p1_moves, .ref q_p1_digits, .ref q_p1_sizes, .ref q_p1_orders, .ref q_p1_above, .ref q_p1_below, .ref q_p1_struck, .ref q_p1_lots])), (q_p1_members, .inl (cI, 6, .inl vp1_members)), (q_p1_moves, .inl (cI, 6, .inl vp1_moves)), (q_p1_digits, .inl (cI, 6, .inl vp1_digits)), (q_p1_sizes, .inl (cI, 6, .inl vp1_sizes)), (q_p1_orders, .inl (cI, 30, .inl vp1_orders))] H := hP
  have hD : va_D A [(q_this, .inr (5, [.int vp1_blocks, .ref q_members, .ref q_moves, .ref q_digits, .ref q_sizes, .ref q_orders, .ref q_above, .ref q_below, .ref q_struck, .ref q_lots])), (q_members, .inl (cI, 6, .inl (va_cpy vp1_members vmembers (0 : Int32).toNatClampNeg (0 : Int32).toNatClampNeg (6 : Int32).toNatClampNeg))), (q_moves, .inl (cI, 6, .inl vmoves)), (q_digits, .inl (cI, 6, .inl vdigits)), (q_sizes, .inl (cI, 6, .inl vsizes)), (q_orders, .inl (cI, 30, .inl vorders)), (q_p1, .inr (5, [.int vp1_blocks, .ref q_p1_members, .ref q_p1_moves, .ref q_p1_digits, .ref q_p1_sizes, .ref q_p1_orders, .ref q_p1_above, .ref q_p1_below, .ref q_p1_struck, .ref q_p1_lots])), (q_p1_members, .inl (cI, 6, .inl vp1_members)), (q_p1_moves, .inl (cI, 6, .inl vp1_moves)), (q_p1_digits, .inl (cI, 6, .inl vp1_digits)), (q_p1_sizes, .inl (cI, 6, .inl vp1_sizes)), (q_p1_orders, .inl (cI, 30, .inl vp1_orders))] := hD
  refine lv_aload_n hx hb dX5_takeBlocks_23 rfl (lv_at hl 1 rfl) ?_
  refine p_get (D := (dC, dI)) (ci := 5) (v := .ref q_p1_moves) (C := RX5) (T := TX5) (N := 10) 2 fX5_2 hx hb hG inlX5 hown hK.1 hP 6 rfl rfl (by decide) (hG _ mw_54) rfl dX5_takeBlocks_24 ?_
  refine lv_iconst (v := (0 : Int32)) hx hb dX5_takeBlocks_27 (by decide) ?_
  refine lv_aload_n hx hb dX5_takeBlocks_28 rfl (lv_at hl 0 rfl) ?_
  refine p_get (D := (dC, dI)) (ci := 5) (v := .ref q_moves) (C := RX5) (T := TX5) (N := 10) 2 fX5_2 hx hb hG inlX5 hown hK.1 hP 0 rfl rfl (by decide) (hG _ mw_54) rfl dX5_takeBlocks_29 ?_
  refine lv_iconst (v := (0 : Int32)) hx hb dX5_takeBlocks_32 (by decide) ?_
  refine lv_bipush (v := (6 : Int32)) hx hb dX5_takeBlocks_33 (by decide) ?_
  refine va_copyi hx hb (hml.trans hl.1.symm) hown (hG _ mw_234) (hG _ mw_235) (hG _ mw_236) (hG _ mw_237) hK.1 hP hD hS 8 2 0 0 rfl rfl rfl rfl rfl (by decide) (by decide) (by decide) (by decide) (by decide) (fun _ _ => rfl) (Nat.le_of_ble_eq_true rfl) (Nat.le_of_ble_eq_true rfl) dX5_takeBlocks_35 (fun H locs hP hD hS => ?_)
  have hP : va_P (dC, dI) classes [(q_this, .inr (5, [.int vp1_blocks, .ref q_members, .ref q_moves, .ref q_digits, .ref q_sizes, .ref q_orders, .ref q_above, .ref q_below, .ref q_struck, .ref q_lots])), (q_members, .inl (cI, 6, .inl (va_cpy vp1_members vmembers (0 : Int32).toNatClampNeg (0 : Int32).toNatClampNeg (6 : Int32).toNatClampNeg))), (q_moves, .inl (cI, 6, .inl (va_cpy vp1_moves vmoves (0 : Int32).toNatClampNeg (0 : Int32).toNatClampNeg (6 : Int32).toNatClampNeg))), (q_digits, .inl (cI, 6, .inl vdigits)), (q_sizes, .inl (cI, 6, .inl vsizes)), (q_orders, .inl (cI, 30, .inl vorders)), (q_p1, .inr (5, [.int vp1_blocks, .ref q_p1_members, .ref q_p1_moves, .ref q_p1_digits, .ref q_p1_sizes, .ref q_p1_orders, .ref q_p1_above, .ref q_p1_below, .ref q_p1_struck, .ref q_p1_lots])), (q_p1_members, .inl (cI, 6, .inl vp1_members)), (q_p1_moves, .inl (cI, 6, .inl vp1_moves)), (q_p1_digits, .inl (cI, 6, .inl vp1_digits)), (q_p1_sizes, .inl (cI, 6, .inl vp1_sizes)), (q_p1_orders, .inl (cI, 30, .inl vp1_orders))] H := hP
  have hD : va_D A [(q_this, .inr (5, [.int vp1_blocks, .ref q_members, .ref q_moves, .ref q_digits, .ref q_sizes, .ref q_orders, .ref q_above, .ref q_below, .ref q_struck, .ref q_lots])), (q_members, .inl (cI, 6, .inl (va_cpy vp1_members vmembers (0 : Int32).toNatClampNeg (0 : Int32).toNatClampNeg (6 : Int32).toNatClampNeg))), (q_moves, .inl (cI, 6, .inl (va_cpy vp1_moves vmoves (0 : Int32).toNatClampNeg (0 : Int32).toNatClampNeg (6 : Int32).toNatClampNeg))), (q_digits, .inl (cI, 6, .inl vdigits)), (q_sizes, .inl (cI, 6, .inl vsizes)), (q_orders, .inl (cI, 30, .inl vorders)), (q_p1, .inr (5, [.int vp1_blocks, .ref q_p1_members, .ref q_p1_moves, .ref q_p1_digits, .ref q_p1_sizes, .ref q_p1_orders, .ref q_p1_above, .ref q_p1_below, .ref q_p1_struck, .ref q_p1_lots])), (q_p1_members, .inl (cI, 6, .inl vp1_members)), (q_p1_moves, .inl (cI, 6, .inl vp1_moves)), (q_p1_digits, .inl (cI, 6, .inl vp1_digits)), (q_p1_sizes, .inl (cI, 6, .inl vp1_sizes)), (q_p1_orders, .inl (cI, 30, .inl vp1_orders))] := hD
  refine lv_aload_n hx hb dX5_takeBlocks_38 rfl (lv_at hl 1 rfl) ?_
  refine p_get (D := (dC, dI)) (ci := 5) (v := .ref q_p1_digits) (C := RX5) (T := TX5) (N := 10) 3 fX5_3 hx hb hG inlX5 hown hK.1 hP 6 rfl rfl (by decide) (hG _ mw_55) rfl dX5_takeBlocks_39 ?_
  refine lv_iconst (v := (0 : Int32)) hx hb dX5_takeBlocks_42 (by decide) ?_
  refine lv_aload_n hx hb dX5_takeBlocks_43 rfl (lv_at hl 0 rfl) ?_
  refine p_get (D := (dC, dI)) (ci := 5) (v := .ref q_digits) (C := RX5) (T := TX5) (N := 10) 3 fX5_3 hx hb hG inlX5 hown hK.1 hP 0 rfl rfl (by decide) (hG _ mw_55) rfl dX5_takeBlocks_44 ?_
  refine lv_iconst (v := (0 : Int32)) hx hb dX5_takeBlocks_47 (by decide) ?_
  refine lv_bipush (v := (6 : Int32)) hx hb dX5_takeBlocks_48 (by decide) ?_
  refine va_copyi hx hb (hml.trans hl.1.symm) hown (hG _ mw_234) (hG _ mw_235) (hG _ mw_236) (hG _ mw_237) hK.1 hP hD hS 9 3 0 0 rfl rfl rfl rfl rfl (by decide) (by decide) (by decide) (by decide) (by decide) (fun _ _ => rfl) (Nat.le_of_ble_eq_true rfl) (Nat.le_of_ble_eq_true rfl) dX5_takeBlocks_50 (fun H locs hP hD hS => ?_)
  have hP : va_P (dC, dI) classes [(q_this, .inr (5, [.int vp1_blocks, .ref q_members, .ref q_moves, .ref q_digits, .ref q_sizes, .ref q_orders, .ref q_above, .ref q_below, .ref q_struck, .ref q_lots])), (q_members, .inl (cI, 6, .inl (va_cpy vp1_members vmembers (0 : Int32).toNatClampNeg (0 : Int32).toNatClampNeg (6 : Int32).toNatClampNeg))), (q_moves, .inl (cI, 6, .inl (va_cpy vp1_moves vmoves (0 : Int32).toNatClampNeg (0 : Int32).toNatClampNeg (6 : Int32).toNatClampNeg))), (q_digits, .inl (cI, 6, .inl (va_cpy vp1_digits vdigits (0 : Int32).toNatClampNeg (0 : Int32).toNatClampNeg (6 : Int32).toNatClampNeg))), (q_sizes, .inl (cI, 6, .inl vsizes)), (q_orders, .inl (cI, 30, .inl vorders)), (q_p1, .inr (5, [.int vp1_blocks, .ref q_p1_members, .ref q_p1_moves, .ref q_p1_digits, .ref q_p1_sizes, .ref q_p1_orders, .ref q_p1_above, .ref q_p1_below, .ref q_p1_struck, .ref q_p1_lots])), (q_p1_members, .inl (cI, 6, .inl vp1_members)), (q_p1_moves, .inl (cI, 6, .inl vp1_moves)), (q_p1_digits, .inl (cI, 6, .inl vp1_digits)), (q_p1_sizes, .inl (cI, 6, .inl vp1_sizes)), (q_p1_orders, .inl (cI, 30, .inl vp1_orders))] H := hP
  have hD : va_D A [(q_this, .inr (5, [.int vp1_blocks, .ref q_members, .ref q_moves, .ref q_digits, .ref q_sizes, .ref q_orders, .ref q_above, .ref q_below, .ref q_struck, .ref q_lots])), (q_members, .inl (cI, 6, .inl (va_cpy vp1_members vmembers (0 : Int32).toNatClampNeg (0 : Int32).toNatClampNeg (6 : Int32).toNatClampNeg))), (q_moves, .inl (cI, 6, .inl (va_cpy vp1_moves vmoves (0 : Int32).toNatClampNeg (0 : Int32).toNatClampNeg (6 : Int32).toNatClampNeg))), (q_digits, .inl (cI, 6, .inl (va_cpy vp1_digits vdigits (0 : Int32).toNatClampNeg (0 : Int32).toNatClampNeg (6 : Int32).toNatClampNeg))), (q_sizes, .inl (cI, 6, .inl vsizes)), (q_orders, .inl (cI, 30, .inl vorders)), (q_p1, .inr (5, [.int vp1_blocks, .ref q_p1_members, .ref q_p1_moves, .ref q_p1_digits, .ref q_p1_sizes, .ref q_p1_orders, .ref q_p1_above, .ref q_p1_below, .ref q_p1_struck, .ref q_p1_lots])), (q_p1_members, .inl (cI, 6, .inl vp1_members)), (q_p1_moves, .inl (cI, 6, .inl vp1_moves)), (q_p1_digits, .inl (cI, 6, .inl vp1_digits)), (q_p1_sizes, .inl (cI, 6, .inl vp1_sizes)), (q_p1_orders, .inl (cI, 30, .inl vp1_orders))] := hD
  refine lv_aload_n hx hb dX5_takeBlocks_53 rfl (lv_at hl 1 rfl) ?_
  refine p_get (D := (dC, dI)) (ci := 5) (v := .ref q_p1_sizes) (C := RX5) (T := TX5) (N := 10) 4 fX5_4 hx hb hG inlX5 hown hK.1 hP 6 rfl rfl (by decide) (hG _ mw_56) rfl dX5_takeBlocks_54 ?_
  refine lv_iconst (v := (0 : Int32)) hx hb dX5_takeBlocks_57 (by decide) ?_
  refine lv_aload_n hx hb dX5_takeBlocks_58 rfl (lv_at hl 0 rfl) ?_
  refine p_get (D := (dC, dI)) (ci := 5) (v := .ref q_sizes) (C := RX5) (T := TX5) (N := 10) 4 fX5_4 hx hb hG inlX5 hown hK.1 hP 0 rfl rfl (by decide) (hG _ mw_56) rfl dX5_takeBlocks_59 ?_
  refine lv_iconst (v := (0 : Int32)) hx hb dX5_takeBlocks_62 (by decide) ?_
  refine lv_bipush (v := (6 : Int32)) hx hb dX5_takeBlocks_63 (by decide) ?_
  refine va_copyi hx hb (hml.trans hl.1.symm) hown (hG _ mw_234) (hG _ mw_235) (hG _ mw_236) (hG _ mw_237) hK.1 hP hD hS 10 4 0 0 rfl rfl rfl rfl rfl (by decide) (by decide) (by decide) (by decide) (by decide) (fun _ _ => rfl) (Nat.le_of_ble_eq_true rfl) (Nat.le_of_ble_eq_true rfl) dX5_takeBlocks_65 (fun H locs hP hD hS => ?_)
  have hP : va_P (dC, dI) classes [(q_this, .inr (5, [.int vp1_blocks, .ref q_members, .ref q_moves, .ref q_digits, .ref q_sizes, .ref q_orders, .ref q_above, .ref q_below, .ref q_struck, .ref q_lots])), (q_members, .inl (cI, 6, .inl (va_cpy vp1_members vmembers (0 : Int32).toNatClampNeg (0 : Int32).toNatClampNeg (6 : Int32).toNatClampNeg))), (q_moves, .inl (cI, 6, .inl (va_cpy vp1_moves vmoves (0 : Int32).toNatClampNeg (0 : Int32).toNatClampNeg (6 : Int32).toNatClampNeg))), (q_digits, .inl (cI, 6, .inl (va_cpy vp1_digits vdigits (0 : Int32).toNatClampNeg (0 : Int32).toNatClampNeg (6 : Int32).toNatClampNeg))), (q_sizes, .inl (cI, 6, .inl (va_cpy vp1_sizes vsizes (0 : Int32).toNatClampNeg (0 : Int32).toNatClampNeg (6 : Int32).toNatClampNeg))), (q_orders, .inl (cI, 30, .inl vorders)), (q_p1, .inr (5, [.int vp1_blocks, .ref q_p1_members, .ref q_p1_moves, .ref q_p1_digits, .ref q_p1_sizes, .ref q_p1_orders, .ref q_p1_above, .ref q_p1_below, .ref q_p1_struck, .ref q_p1_lots])), (q_p1_members, .inl (cI, 6, .inl vp1_members)), (q_p1_moves, .inl (cI, 6, .inl vp1_moves)), (q_p1_digits, .inl (cI, 6, .inl vp1_digits)), (q_p1_sizes, .inl (cI, 6, .inl vp1_sizes)), (q_p1_orders, .inl (cI, 30, .inl vp1_orders))] H := hP
  have hD : va_D A [(q_this, .inr (5, [.int vp1_blocks, .ref q_members, .ref q_moves, .ref q_digits, .ref q_sizes, .ref q_orders, .ref q_above, .ref q_below, .ref q_struck, .ref q_lots])), (q_members, .inl (cI, 6, .inl (va_cpy vp1_members vmembers (0 : Int32).toNatClampNeg (0 : Int32).toNatClampNeg (6 : Int32).toNatClampNeg))), (q_moves, .inl (cI, 6, .inl (va_cpy vp1_moves vmoves (0 : Int32).toNatClampNeg (0 : Int32).toNatClampNeg (6 : Int32).toNatClampNeg))), (q_digits, .inl (cI, 6, .inl (va_cpy vp1_digits vdigits (0 : Int32).toNatClampNeg (0 : Int32).toNatClampNeg (6 : Int32).toNatClampNeg))), (q_sizes, .inl (cI, 6, .inl (va_cpy vp1_sizes vsizes (0 : Int32).toNatClampNeg (0 : Int32).toNatClampNeg (6 : Int32).toNatClampNeg))), (q_orders, .inl (cI, 30, .inl vorders)), (q_p1, .inr (5, [.int vp1_blocks, .ref q_p1_members, .ref q_p1_moves, .ref q_p1_digits, .ref q_p1_sizes, .ref q_p1_orders, .ref q_p1_above, .ref q_p1_below, .ref q_p1_struck, .ref q_p1_lots])), (q_p1_members, .inl (cI, 6, .inl vp1_members)), (q_p1_moves, .inl (cI, 6, .inl vp1_moves)), (q_p1_digits, .inl (cI, 6, .inl vp1_digits)), (q_p1_sizes, .inl (cI, 6, .inl vp1_sizes)), (q_p1_orders, .inl (cI, 30, .inl vp1_orders))] := hD
  refine lv_aload_n hx hb dX5_takeBlocks_68 rfl (lv_at hl 1 rfl) ?_
  refine p_get (D := (dC, dI)) (ci := 5) (v := .ref q_p1_orders) (C := RX5) (T := TX5) (N := 10) 5 fX5_5 hx hb hG inlX5 hown hK.1 hP 6 rfl rfl (by decide) (hG _ mw_57) rfl dX5_takeBlocks_69 ?_
  refine lv_iconst (v := (0 : Int32)) hx hb dX5_takeBlocks_72 (by decide) ?_
  refine lv_aload_n hx hb dX5_takeBlocks_73 rfl (lv_at hl 0 rfl) ?_
  refine p_get (D := (dC, dI)) (ci := 5) (v := .ref q_orders) (C := RX5) (T := TX5) (N := 10) 5 fX5_5 hx hb hG inlX5 hown hK.1 hP 0 rfl rfl (by decide) (hG _ mw_57) rfl dX5_takeBlocks_74 ?_
  refine lv_iconst (v := (0 : Int32)) hx hb dX5_takeBlocks_77 (by decide) ?_
  refine lv_bipush (v := (30 : Int32)) hx hb dX5_takeBlocks_78 (by decide) ?_
  refine va_copyi hx hb (hml.trans hl.1.symm) hown (hG _ mw_234) (hG _ mw_235) (hG _ mw_236) (hG _ mw_237) hK.1 hP hD hS 11 5 0 0 rfl rfl rfl rfl rfl (by decide) (by decide) (by decide) (by decide) (by decide) (fun _ _ => rfl) (Nat.le_of_ble_eq_true rfl) (Nat.le_of_ble_eq_true rfl) dX5_takeBlocks_80 (fun H locs hP hD hS => ?_)
  have hP : va_P (dC, dI) classes [(q_this, .inr (5, [.int vp1_blocks, .ref q_members, .ref q_moves, .ref q_digits, .ref q_sizes, .ref q_orders, .ref q_above, .ref q_below, .ref q_struck, .ref q_lots])), (q_members, .inl (cI, 6, .inl (va_cpy vp1_members vmembers (0 : Int32).toNatClampNeg (0 : Int32).toNatClampNeg (6 : Int32).toNatClampNeg))), (q_moves, .inl (cI, 6, .inl (va_cpy vp1_moves vmoves (0 : Int32).toNatClampNeg (0 : Int32).toNatClampNeg (6 : Int32).toNatClampNeg))), (q_digits, .inl (cI, 6, .inl (va_cpy vp1_digits vdigits (0 : Int32).toNatClampNeg (0 : Int32).toNatClampNeg (6 : Int32).toNatClampNeg))), (q_sizes, .inl (cI, 6, .inl (va_cpy vp1_sizes vsizes (0 : Int32).toNatClampNeg (0 : Int32).toNatClampNeg (6 : Int32).toNatClampNeg))), (q_orders, .inl (cI, 30, .inl (va_cpy vp1_orders vorders (0 : Int32).toNatClampNeg (0 : Int32).toNatClampNeg (30 : Int32).toNatClampNeg))), (q_p1, .inr (5, [.int vp1_blocks, .ref q_p1_members, .ref q_p1_moves, .ref q_p1_digits, .ref q_p1_sizes, .ref q_p1_orders, .ref q_p1_above, .ref q_p1_below, .ref q_p1_struck, .ref q_p1_lots])), (q_p1_members, .inl (cI, 6, .inl vp1_members)), (q_p1_moves, .inl (cI, 6, .inl vp1_moves)), (q_p1_digits, .inl (cI, 6, .inl vp1_digits)), (q_p1_sizes, .inl (cI, 6, .inl vp1_sizes)), (q_p1_orders, .inl (cI, 30, .inl vp1_orders))] H := hP
  have hD : va_D A [(q_this, .inr (5, [.int vp1_blocks, .ref q_members, .ref q_moves, .ref q_digits, .ref q_sizes, .ref q_orders, .ref q_above, .ref q_below, .ref q_struck, .ref q_lots])), (q_members, .inl (cI, 6, .inl (va_cpy vp1_members vmembers (0 : Int32).toNatClampNeg (0 : Int32).toNatClampNeg (6 : Int32).toNatClampNeg))), (q_moves, .inl (cI, 6, .inl (va_cpy vp1_moves vmoves (0 : Int32).toNatClampNeg (0 : Int32).toNatClampNeg (6 : Int32).toNatClampNeg))), (q_digits, .inl (cI, 6, .inl (va_cpy vp1_digits vdigits (0 : Int32).toNatClampNeg (0 : Int32).toNatClampNeg (6 : Int32).toNatClampNeg))), (q_sizes, .inl (cI, 6, .inl (va_cpy vp1_sizes vsizes (0 : Int32).toNatClampNeg (0 : Int32).toNatClampNeg (6 : Int32).toNatClampNeg))), (q_orders, .inl (cI, 30, .inl (va_cpy vp1_orders vorders (0 : Int32).toNatClampNeg (0 : Int32).toNatClampNeg (30 : Int32).toNatClampNeg))), (q_p1, .inr (5, [.int vp1_blocks, .ref q_p1_members, .ref q_p1_moves, .ref q_p1_digits, .ref q_p1_sizes, .ref q_p1_orders, .ref q_p1_above, .ref q_p1_below, .ref q_p1_struck, .ref q_p1_lots])), (q_p1_members, .inl (cI, 6, .inl vp1_members)), (q_p1_moves, .inl (cI, 6, .inl vp1_moves)), (q_p1_digits, .inl (cI, 6, .inl vp1_digits)), (q_p1_sizes, .inl (cI, 6, .inl vp1_sizes)), (q_p1_orders, .inl (cI, 30, .inl vp1_orders))] := hD
  have hf := osi hf
  exact x_vW hx hb hr hlocks hP hD hS (by have h9 := congrArg (fun z : Int32 × (Nat → Int32) × (Nat → Int32) × (Nat → Int32) × (Nat → Int32) × (Nat → Int32) => (w_X5_takeBlocks cI cJ cB q_this q_p1 q_members q_moves q_digits q_sizes q_orders q_above q_below q_struck q_lots q_p1_members q_p1_moves q_p1_digits q_p1_sizes q_p1_orders q_p1_above q_p1_below q_p1_struck q_p1_lots z.1 z.2.1 z.2.2.1 z.2.2.2.1 z.2.2.2.2.1 z.2.2.2.2.2 vp1_blocks vp1_members vp1_moves vp1_digits vp1_sizes vp1_orders)) hf; exact h9) dX5_takeBlocks_83
def f_X5_takeAll (vmembers : Nat → Int32) (vmoves : Nat → Int32) (vdigits : Nat → Int32) (vsizes : Nat → Int32) (vorders : Nat → Int32) (vabove : Nat → Int32) (vbelow : Nat → Int32) (vstruck : Nat → Int32) (vlots : Nat → Int32) (vp1_blocks : Int32) (vp1_members : Nat → Int32) (vp1_moves : Nat → Int32) (vp1_digits : Nat → Int32) (vp1_sizes : Nat → Int32) (vp1_orders : Nat → Int32) (vp1_above : Nat → Int32) (vp1_below : Nat → Int32) (vp1_struck : Nat → Int32) (vp1_lots : Nat → Int32) : Option (Int32 × (Nat → Int32) × (Nat → Int32) × (Nat → Int32) × (Nat → Int32) × (Nat → Int32) × (Nat → Int32) × (Nat → Int32) × (Nat → Int32) × (Nat → Int32)) := ((f_X5_takeBlocks vmembers vmoves vdigits vsizes vorders vp1_blocks vp1_members vp1_moves vp1_digits vp1_sizes vp1_orders).bind (fun u1 => some (u1.1, u1.2.1, u1.2.2.1, u1.2.2.2.1, u1.2.2.2.2.1, u1.2.2.2.2.2, (va_cpy vp1_above vabove (0 : Int32).toNatClampNeg (0 : Int32).toNatClampNeg (8 : Int32).toNatClampNeg), (va_cpy vp1_below vbelow (0 : Int32).toNatClampNeg (0 : Int32).toNatClampNeg (8 : Int32).toNatClampNeg), (va_cpy vp1_struck vstruck (0 : Int32).toNatClampNeg (0 : Int32).toNatClampNeg (5 : Int32).toNatClampNeg), (va_cpy vp1_lots vlots (0 : Int32).toNatClampNeg (0 : Int32).toNatClampNeg (16 : Int32).toNatClampNeg))))
def w_X5_takeAll (cI cJ cB : ClassId) (q_this q_p1 q_members q_moves q_digits q_sizes q_orders q_above q_below q_struck q_lots q_p1_members q_p1_moves q_p1_digits q_p1_sizes q_p1_orders q_p1_above q_p1_below q_p1_struck q_p1_lots : Nat) (vblocks : Int32) (vmembers : Nat → Int32) (vmoves : Nat → Int32) (vdigits : Nat → Int32) (vsizes : Nat → Int32) (vorders : Nat → Int32) (vabove : Nat → Int32) (vbelow : Nat → Int32) (vstruck : Nat → Int32) (vlots : Nat → Int32) (vp1_blocks : Int32) (vp1_members : Nat → Int32) (vp1_moves : Nat → Int32) (vp1_digits : Nat → Int32) (vp1_sizes : Nat → Int32) (vp1_orders : Nat → Int32) (vp1_above : Nat → Int32) (vp1_below : Nat → Int32) (vp1_struck : Nat → Int32) (vp1_lots : Nat → Int32) : va_W := [(q_this, .inr (5, [.int vblocks, .ref q_members, .ref q_moves, .ref q_digits, .ref q_sizes, .ref q_orders, .ref q_above, .ref q_below, .ref q_struck, .ref q_lots])), (q_members, .inl (cI, 6, .inl vmembers)), (q_moves, .inl (cI, 6, .inl vmoves)), (q_digits, .inl (cI, 6, .inl vdigits)), (q_sizes, .inl (cI, 6, .inl vsizes)), (q_orders, .inl (cI, 30, .inl vorders)), (q_above, .inl (cI, 8, .inl vabove)), (q_below, .inl (cI, 8, .inl vbelow)), (q_struck, .inl (cI, 5, .inl vstruck)), (q_lots, .inl (cI, 16, .inl vlots)), (q_p1, .inr (5, [.int vp1_blocks, .ref q_p1_members, .ref q_p1_moves, .ref q_p1_digits, .ref q_p1_sizes, .ref q_p1_orders, .ref q_p1_above, .ref q_p1_below, .ref q_p1_struck, .ref q_p1_lots])), (q_p1_members, .inl (cI, 6, .inl vp1_members)), (q_p1_moves, .inl (cI, 6, .inl vp1_moves)), (q_p1_digits, .inl (cI, 6, .inl vp1_digits)), (q_p1_sizes, .inl (cI, 6, .inl vp1_sizes)), (q_p1_orders, .inl (cI, 30, .inl vp1_orders)), (q_p1_above, .inl (cI, 8, .inl vp1_above)), (q_p1_below, .inl (cI, 8, .inl vp1_below)), (q_p1_struck, .inl (cI, 5, .inl vp1_struck)), (q_p1_lots, .inl (cI, 16, .inl vp1_lots))]
set_option maxHeartbeats 4000000 in
set_option maxRecDepth 100000 in
theorem c_X5_takeAll (l : Launch) (dC : Nat → ClassId) (dI : Nat → Nat → Nat) (cI cJ cB : ClassId) (q_this q_p1 q_members q_moves q_digits q_sizes q_orders q_above q_below q_struck q_lots q_p1_members q_p1_moves q_p1_digits q_p1_sizes q_p1_orders q_p1_above q_p1_below q_p1_struck q_p1_lots : Nat) (vblocks : Int32) (vmembers : Nat → Int32) (vmoves : Nat → Int32) (vdigits : Nat → Int32) (vsizes : Nat → Int32) (vorders : Nat → Int32) (vabove : Nat → Int32) (vbelow : Nat → Int32) (vstruck : Nat → Int32) (vlots : Nat → Int32) (vp1_blocks : Int32) (vp1_members : Nat → Int32) (vp1_moves : Nat → Int32) (vp1_digits : Nat → Int32) (vp1_sizes : Nat → Int32) (vp1_orders : Nat → Int32) (vp1_above : Nat → Int32) (vp1_below : Nat → Int32) (vp1_struck : Nat → Int32) (vp1_lots : Nat → Int32) (sz : Nat) {r : Int32 × (Nat → Int32) × (Nat → Int32) × (Nat → Int32) × (Nat → Int32) × (Nat → Int32) × (Nat → Int32) × (Nat → Int32) × (Nat → Int32) × (Nat → Int32)} (hf : f_X5_takeAll vmembers vmoves vdigits vsizes vorders vabove vbelow vstruck vlots vp1_blocks vp1_members vp1_moves vp1_digits vp1_sizes vp1_orders vp1_above vp1_below vp1_struck vp1_lots = some r) : Met l yX5_takeAll (Cond.code yX5_takeAll cX5_takeAll 2 none :: wsL_law) (kR 2) (va_Pc [.ref q_this, .ref q_p1] (pW (dC, dI) cI cJ cB (w_X5_takeAll cI cJ cB q_this q_p1 q_members q_moves q_digits q_sizes q_orders q_above q_below q_struck q_lots q_p1_members q_p1_moves q_p1_digits q_p1_sizes q_p1_orders q_p1_above q_p1_below q_p1_struck q_p1_lots vblocks vmembers vmoves vdigits vsizes vorders vabove vbelow vstruck vlots vp1_blocks vp1_members vp1_moves vp1_digits vp1_sizes vp1_orders vp1_above vp1_below vp1_struck vp1_lots) sz)) (qWv (fun w => w = (w_X5_takeAll cI cJ cB q_this q_p1 q_members q_moves q_digits q_sizes q_orders q_above q_below q_struck q_lots q_p1_members q_p1_moves q_p1_digits q_p1_sizes q_p1_orders q_p1_above q_p1_below q_p1_struck q_p1_lots r.1 r.2.1 r.2.2.1 r.2.2.2.1 r.2.2.2.2.1 r.2.2.2.2.2.1 r.2.2.2.2.2.2.1 r.2.2.2.2.2.2.2.1 r.2.2.2.2.2.2.2.2.1 r.2.2.2.2.2.2.2.2.2 vp1_blocks vp1_members vp1_moves vp1_digits vp1_sizes vp1_orders vp1_above vp1_below vp1_struck vp1_lots)) (dC, dI) (va_A (w_X5_takeAll cI cJ cB q_this q_p1 q_members q_moves q_digits q_sizes q_orders q_above q_below q_struck q_lots q_p1_members q_p1_moves q_p1_digits q_p1_sizes q_p1_orders q_p1_above q_p1_below q_p1_struck q_p1_lots vblocks vmembers vmoves vdigits vsizes vorders vabove vbelow vstruck vlots vp1_blocks vp1_members vp1_moves vp1_digits vp1_sizes vp1_orders vp1_above vp1_below vp1_struck vp1_lots) sz)) 0 0 (va_A (w_X5_takeAll cI cJ cB q_this q_p1 q_members q_moves q_digits q_sizes q_orders q_above q_below q_struck q_lots q_p1_members q_p1_moves q_p1_digits q_p1_sizes q_p1_orders q_p1_above q_p1_below q_p1_struck q_p1_lots vblocks vmembers vmoves vdigits vsizes vorders vabove vbelow vstruck vlots vp1_blocks vp1_members vp1_moves vp1_digits vp1_sizes vp1_orders vp1_above vp1_below vp1_struck vp1_lots) sz) := by
  refine k_wr (Qc := fun A => (qWv (fun w => w = (w_X5_takeAll cI cJ cB q_this q_p1 q_members q_moves q_digits q_sizes q_orders q_above q_below q_struck q_lots q_p1_members q_p1_moves q_p1_digits q_p1_sizes q_p1_orders q_p1_above q_p1_below q_p1_struck q_p1_lots r.1 r.2.1 r.2.2.1 r.2.2.2.1 r.2.2.2.2.1 r.2.2.2.2.2.1 r.2.2.2.2.2.2.1 r.2.2.2.2.2.2.2.1 r.2.2.2.2.2.2.2.2.1 r.2.2.2.2.2.2.2.2.2 vp1_blocks vp1_members vp1_moves vp1_digits vp1_sizes vp1_orders vp1_above vp1_below vp1_struck vp1_lots)) (dC, dI) A)) (cc := cX5_takeAll) (n := 2) (ret := none) (by decide) (Nat.le_of_ble_eq_true rfl) ?_
  intro p e s m args below meth c ls A hx hb hr hml hts hown hlocks hnm hA hK hP hD hS hl
  have hD : va_D A [(q_this, .inr (5, [.int vblocks, .ref q_members, .ref q_moves, .ref q_digits, .ref q_sizes, .ref q_orders, .ref q_above, .ref q_below, .ref q_struck, .ref q_lots])), (q_members, .inl (cI, 6, .inl vmembers)), (q_moves, .inl (cI, 6, .inl vmoves)), (q_digits, .inl (cI, 6, .inl vdigits)), (q_sizes, .inl (cI, 6, .inl vsizes)), (q_orders, .inl (cI, 30, .inl vorders)), (q_above, .inl (cI, 8, .inl vabove)), (q_below, .inl (cI, 8, .inl vbelow)), (q_struck, .inl (cI, 5, .inl vstruck)), (q_lots, .inl (cI, 16, .inl vlots)), (q_p1, .inr (5, [.int vp1_blocks, .ref q_p1_members, .ref q_p1_moves, .ref q_p1_digits, .ref q_p1_sizes, .ref q_p1_orders, .ref q_p1_above, .ref q_p1_below, .ref q_p1_struck, .ref q_p1_lots])), (q_p1_members, .inl (cI, 6, .inl vp1_members)), (q_p1_moves, .inl (cI, 6, .inl vp1_moves)), (q_p1_digits, .inl (cI, 6, .inl vp1_digits)), (q_p1_sizes, .inl (cI, 6, .inl vp1_sizes)), (q_p1_orders, .inl (cI, 30, .inl vp1_orders)), (q_p1_above, .inl (cI, 8, .inl vp1_above)), (q_p1_below, .inl (cI, 8, .inl vp1_below)), (q_p1_struck, .inl (cI, 5, .inl vp1_struck)), (q_p1_lots, .inl (cI, 16, .inl vp1_lots))] := hD
  have hP : va_P (dC, dI) classes [(q_this, .inr (5, [.int vblocks, .ref q_members, .ref q_moves, .ref q_digits, .ref q_sizes, .ref q_orders, .ref q_above, .ref q_below, .ref q_struck, .ref q_lots])), (q_members, .inl (cI, 6, .inl vmembers)), (q_moves, .inl (cI, 6, .inl vmoves)), (q_digits, .inl (cI, 6, .inl vdigits)), (q_sizes, .inl (cI, 6, .inl vsizes)), (q_orders, .inl (cI, 30, .inl vorders)), (q_above, .inl (cI, 8, .inl vabove)), (q_below, .inl (cI, 8, .inl vbelow)), (q_struck, .inl (cI, 5, .inl vstruck)), (q_lots, .inl (cI, 16, .inl vlots)), (q_p1, .inr (5, [.int vp1_blocks, .ref q_p1_members, .ref q_p1_moves, .ref q_p1_digits, .ref q_p1_sizes, .ref q_p1_orders, .ref q_p1_above, .ref q_p1_below, .ref q_p1_struck, .ref q_p1_lots])), (q_p1_members, .inl (cI, 6, .inl vp1_members)), (q_p1_moves, .inl (cI, 6, .inl vp1_moves)), (q_p1_digits, .inl (cI, 6, .inl vp1_digits)), (q_p1_sizes, .inl (cI, 6, .inl vp1_sizes)), (q_p1_orders, .inl (cI, 30, .inl vp1_orders)), (q_p1_above, .inl (cI, 8, .inl vp1_above)), (q_p1_below, .inl (cI, 8, .inl vp1_below)), (q_p1_struck, .inl (cI, 5, .inl vp1_struck)), (q_p1_lots, .inl (cI, 16, .inl vp1_lots))] s.heap := hP
  have hG : ∀ w ∈ wsL_law, w.before args s = true := fun w h => hts w (List.mem_cons_of_mem _ h)
  have hown : s.vm.findClass RX5 = some m.cls := hown
  have hl : lv_has ls 2 [(0, .ref q_this), (1, .ref q_p1)] := hl
  unfold f_X5_takeAll at hf
  refine lv_aload_n hx hb dX5_takeAll_0 rfl (lv_at hl 0 rfl) ?_
  refine lv_aload_n hx hb dX5_takeAll_1 rfl (lv_at hl 1 rfl) ?_
  obtain ⟨u1, hu1, hf⟩ := ob hf
  refine k_VWv (As := [.ref q_p1]) (rest := []) (wr := [(q_above, .inl (cI, 8, .inl vabove)), (q_below, .inl (cI, 8, .inl vbelow)), (q_struck, .inl (cI, 5, .inl vstruck)), (q_lots, .inl (cI, 16, .inl vlots)), (q_p1_above, .inl (cI, 8, .inl vp1_above)), (q_p1_below, .inl (cI, 8, .inl vp1_below)), (q_p1_struck, .inl (cI, 5, .inl vp1_struck)), (q_p1_lots, .inl (cI, 16, .inl vp1_lots))]) ⟨hx, hb, hml, hown, hts⟩ hK hP hD hS hA [0, 1, 2, 3, 4, 5, 10, 11, 12, 13, 14, 15] [6, 7, 8, 9, 16, 17, 18, 19] rfl rfl (by decide) (by decide) (by decide) (c_X5_takeBlocks l dC dI cI cJ cB q_this q_p1 q_members q_moves q_digits q_sizes q_orders q_above q_below q_struck q_lots q_p1_members q_p1_moves q_p1_digits q_p1_sizes q_p1_orders q_p1_above q_p1_below q_p1_struck q_p1_lots vblocks vmembers vmoves vdigits vsizes vorders vp1_blocks vp1_members vp1_moves vp1_digits vp1_sizes vp1_orders _ hu1) (gl_X5_55 hts ⟨(Nat.le_of_ble_eq_true rfl), (Nat.le_of_ble_eq_true rfl)⟩) 0 5 rfl rfl rfl rfl hl.1 rfl (Nat.le_of_ble_eq_true rfl) dX5_takeAll_2 ⟨(Nat.le_of_ble_eq_true rfl), (Nat.le_of_ble_eq_true rfl)⟩ (fun w H locs hE hP hD hS => ?_)
  subst hE
  have hP : va_P (dC, dI) classes [(q_above, .inl (cI, 8, .inl vabove)), (q_below, .inl (cI, 8, .inl vbelow)), (q_struck, .inl (cI, 5, .inl vstruck)), (q_lots, .inl (cI, 16, .inl vlots)), (q_p1_above, .inl (cI, 8, .inl vp1_above)), (q_p1_below, .inl (cI, 8, .inl vp1_below)), (q_p1_struck, .inl (cI, 5, .inl vp1_struck)), (q_p1_lots, .inl (cI, 16, .inl vp1_lots)), (q_this, .inr (5, [.int u1.1, .ref q_members, .ref q_moves, .ref q_digits, .ref q_sizes, .ref q_orders, .ref q_above, .ref q_below, .ref q_struck, .ref q_lots])), (q_members, .inl (cI, 6, .inl u1.2.1)), (q_moves, .inl (cI, 6, .inl u1.2.2.1)), (q_digits, .inl (cI, 6, .inl u1.2.2.2.1)), (q_sizes, .inl (cI, 6, .inl u1.2.2.2.2.1)), (q_orders, .inl (cI, 30, .inl u1.2.2.2.2.2)), (q_p1, .inr (5, [.int vp1_blocks, .ref q_p1_members, .ref q_p1_moves, .ref q_p1_digits, .ref q_p1_sizes, .ref q_p1_orders, .ref q_p1_above, .ref q_p1_below, .ref q_p1_struck, .ref q_p1_lots])), (q_p1_members, .inl (cI, 6, .inl vp1_members)), (q_p1_moves, .inl (cI, 6, .inl vp1_moves)), (q_p1_digits, .inl (cI, 6, .inl vp1_digits)), (q_p1_sizes, .inl (cI, 6, .inl vp1_sizes)), (q_p1_orders, .inl (cI, 30, .inl vp1_orders))] H := hP
  have hD : va_D A [(q_above, .inl (cI, 8, .inl vabove)), (q_below, .inl (cI, 8, .inl vbelow)), (q_struck, .inl (cI, 5, .inl vstruck)), (q_lots, .inl (cI, 16, .inl vlots)), (q_p1_above, .inl (cI, 8, .inl vp1_above)), (q_p1_below, .inl (cI, 8, .inl vp1_below)), (q_p1_struck, .inl (cI, 5, .inl vp1_struck)), (q_p1_lots, .inl (cI, 16, .inl vp1_lots)), (q_this, .inr (5, [.int u1.1, .ref q_members, .ref q_moves, .ref q_digits, .ref q_sizes, .ref q_orders, .ref q_above, .ref q_below, .ref q_struck, .ref q_lots])), (q_members, .inl (cI, 6, .inl u1.2.1)), (q_moves, .inl (cI, 6, .inl u1.2.2.1)), (q_digits, .inl (cI, 6, .inl u1.2.2.2.1)), (q_sizes, .inl (cI, 6, .inl u1.2.2.2.2.1)), (q_orders, .inl (cI, 30, .inl u1.2.2.2.2.2)), (q_p1, .inr (5, [.int vp1_blocks, .ref q_p1_members, .ref q_p1_moves, .ref q_p1_digits, .ref q_p1_sizes, .ref q_p1_orders, .ref q_p1_above, .ref q_p1_below, .ref q_p1_struck, .ref q_p1_lots])), (q_p1_members, .inl (cI, 6, .inl vp1_members)), (q_p1_moves, .inl (cI, 6, .inl vp1_moves)), (q_p1_digits, .inl (cI, 6, .inl vp1_digits)), (q_p1_sizes, .inl (cI, 6, .inl vp1_sizes)), (q_p1_orders, .inl (cI, 30, .inl vp1_orders))] := hD
  refine lv_aload_n hx hb dX5_takeAll_5 rfl (lv_at hl 1 rfl) ?_
  refine p_get (D := (dC, dI)) (ci := 5) (v := .ref q_p1_above) (C := RX5) (T := TX5) (N := 10) 6 fX5_6 hx hb hG inlX5 hown hK.1 hP 14 rfl rfl (by decide) (hG _ mw_58) rfl dX5_takeAll_6 ?_
  refine lv_iconst (v := (0 : Int32)) hx hb dX5_takeAll_9 (by decide) ?_
  refine lv_aload_n hx hb dX5_takeAll_10 rfl (lv_at hl 0 rfl) ?_
  refine p_get (D := (dC, dI)) (ci := 5) (v := .ref q_above) (C := RX5) (T := TX5) (N := 10) 6 fX5_6 hx hb hG inlX5 hown hK.1 hP 8 rfl rfl (by decide) (hG _ mw_58) rfl dX5_takeAll_11 ?_
  refine lv_iconst (v := (0 : Int32)) hx hb dX5_takeAll_14 (by decide) ?_
  refine lv_bipush (v := (8 : Int32)) hx hb dX5_takeAll_15 (by decide) ?_
  refine va_copyi hx hb (hml.trans hl.1.symm) hown (hG _ mw_234) (hG _ mw_235) (hG _ mw_236) (hG _ mw_237) hK.1 hP hD hS 4 0 0 0 rfl rfl rfl rfl rfl (by decide) (by decide) (by decide) (by decide) (by decide) (fun _ _ => rfl) (Nat.le_of_ble_eq_true rfl) (Nat.le_of_ble_eq_true rfl) dX5_takeAll_17 (fun H locs hP hD hS => ?_)
  have hP : va_P (dC, dI) classes [(q_above, .inl (cI, 8, .inl (va_cpy vp1_above vabove (0 : Int32).toNatClampNeg (0 : Int32).toNatClampNeg (8 : Int32).toNatClampNeg))), (q_below, .inl (cI, 8, .inl vbelow)), (q_struck, .inl (cI, 5, .inl vstruck)), (q_lots, .inl (cI, 16, .inl vlots)), (q_p1_above, .inl (cI, 8, .inl vp1_above)), (q_p1_below, .inl (cI, 8, .inl vp1_below)), (q_p1_struck, .inl (cI, 5, .inl vp1_struck)), (q_p1_lots, .inl (cI, 16, .inl vp1_lots)), (q_this, .inr (5, [.int u1.1, .ref q_members, .ref q_moves, .ref q_digits, .ref q_sizes, .ref q_orders, .ref q_above, .ref q_below, .ref q_struck, .ref q_lots])), (q_members, .inl (cI, 6, .inl u1.2.1)), (q_moves, .inl (cI, 6, .inl u1.2.2.1)), (q_digits, .inl (cI, 6, .inl u1.2.2.2.1)), (q_sizes, .inl (cI, 6, .inl u1.2.2.2.2.1)), (q_orders, .inl (cI, 30, .inl u1.2.2.2.2.2)), (q_p1, .inr (5, [.int vp1_blocks, .ref q_p1_members, .ref q_p1_moves, .ref q_p1_digits, .ref q_p1_sizes, .ref q_p1_orders, .ref q_p1_above, .ref q_p1_below, .ref q_p1_struck, .ref q_p1_lots])), (q_p1_members, .inl (cI, 6, .inl vp1_members)), (q_p1_moves, .inl (cI, 6, .inl vp1_moves)), (q_p1_digits, .inl (cI, 6, .inl vp1_digits)), (q_p1_sizes, .inl (cI, 6, .inl vp1_sizes)), (q_p1_orders, .inl (cI, 30, .inl vp1_orders))] H := hP
  have hD : va_D A [(q_above, .inl (cI, 8, .inl (va_cpy vp1_above vabove (0 : Int32).toNatClampNeg (0 : Int32).toNatClampNeg (8 : Int32).toNatClampNeg))), (q_below, .inl (cI, 8, .inl vbelow)), (q_struck, .inl (cI, 5, .inl vstruck)), (q_lots, .inl (cI, 16, .inl vlots)), (q_p1_above, .inl (cI, 8, .inl vp1_above)), (q_p1_below, .inl (cI, 8, .inl vp1_below)), (q_p1_struck, .inl (cI, 5, .inl vp1_struck)), (q_p1_lots, .inl (cI, 16, .inl vp1_lots)), (q_this, .inr (5, [.int u1.1, .ref q_members, .ref q_moves, .ref q_digits, .ref q_sizes, .ref q_orders, .ref q_above, .ref q_below, .ref q_struck, .ref q_lots])), (q_members, .inl (cI, 6, .inl u1.2.1)), (q_moves, .inl (cI, 6, .inl u1.2.2.1)), (q_digits, .inl (cI, 6, .inl u1.2.2.2.1)), (q_sizes, .inl (cI, 6, .inl u1.2.2.2.2.1)), (q_orders, .inl (cI, 30, .inl u1.2.2.2.2.2)), (q_p1, .inr (5, [.int vp1_blocks, .ref q_p1_members, .ref q_p1_moves, .ref q_p1_digits, .ref q_p1_sizes, .ref q_p1_orders, .ref q_p1_above, .ref q_p1_below, .ref q_p1_struck, .ref q_p1_lots])), (q_p1_members, .inl (cI, 6, .inl vp1_members)), (q_p1_moves, .inl (cI, 6, .inl vp1_moves)), (q_p1_digits, .inl (cI, 6, .inl vp1_digits)), (q_p1_sizes, .inl (cI, 6, .inl vp1_sizes)), (q_p1_orders, .inl (cI, 30, .inl vp1_orders))] := hD
  refine lv_aload_n hx hb dX5_takeAll_20 rfl (lv_at hl 1 rfl) ?_
  refine p_get (D := (dC, dI)) (ci := 5) (v := .ref q_p1_below) (C := RX5) (T := TX5) (N := 10) 7 fX5_7 hx hb hG inlX5 hown hK.1 hP 14 rfl rfl (by decide) (hG _ mw_59) rfl dX5_takeAll_21 ?_
  refine lv_iconst (v := (0 : Int32)) hx hb dX5_takeAll_24 (by decide) ?_
  refine lv_aload_n hx hb dX5_takeAll_25 rfl (lv_at hl 0 rfl) ?_
  refine p_get (D := (dC, dI)) (ci := 5) (v := .ref q_below) (C := RX5) (T := TX5) (N := 10) 7 fX5_7 hx hb hG inlX5 hown hK.1 hP 8 rfl rfl (by decide) (hG _ mw_59) rfl dX5_takeAll_26 ?_
  refine lv_iconst (v := (0 : Int32)) hx hb dX5_takeAll_29 (by decide) ?_
  refine lv_bipush (v := (8 : Int32)) hx hb dX5_takeAll_30 (by decide) ?_
  refine va_copyi hx hb (hml.trans hl.1.symm) hown (hG _ mw_234) (hG _ mw_235) (hG _ mw_236) (hG _ mw_237) hK.1 hP hD hS 5 1 0 0 rfl rfl rfl rfl rfl (by decide) (by decide) (by decide) (by decide) (by decide) (fun _ _ => rfl) (Nat.le_of_ble_eq_true rfl) (Nat.le_of_ble_eq_true rfl) dX5_takeAll_32 (fun H locs hP hD hS => ?_)
  have hP : va_P (dC, dI) classes [(q_above, .inl (cI, 8, .inl (va_cpy vp1_above vabove (0 : Int32).toNatClampNeg (0 : Int32).toNatClampNeg (8 : Int32).toNatClampNeg))), (q_below, .inl (cI, 8, .inl (va_cpy vp1_below vbelow (0 : Int32).toNatClampNeg (0 : Int32).toNatClampNeg (8 : Int32).toNatClampNeg))), (q_struck, .inl (cI, 5, .inl vstruck)), (q_lots, .inl (cI, 16, .inl vlots)), (q_p1_above, .inl (cI, 8, .inl vp1_above)), (q_p1_below, .inl (cI, 8, .inl vp1_below)), (q_p1_struck, .inl (cI, 5, .inl vp1_struck)), (q_p1_lots, .inl (cI, 16, .inl vp1_lots)), (q_this, .inr (5, [.int u1.1, .ref q_members, .ref q_moves, .ref q_digits, .ref q_sizes, .ref q_orders, .ref q_above, .ref q_below, .ref q_struck, .ref q_lots])), (q_members, .inl (cI, 6, .inl u1.2.1)), (q_moves, .inl (cI, 6, .inl u1.2.2.1)), (q_digits, .inl (cI, 6, .inl u1.2.2.2.1)), (q_sizes, .inl (cI, 6, .inl u1.2.2.2.2.1)), (q_orders, .inl (cI, 30, .inl u1.2.2.2.2.2)), (q_p1, .inr (5, [.int vp1_blocks, .ref q_p1_members, .ref q_p1_moves, .ref q_p1_digits, .ref q_p1_sizes, .ref q_p1_orders, .ref q_p1_above, .ref q_p1_below, .ref q_p1_struck, .ref q_p1_lots])), (q_p1_members, .inl (cI, 6, .inl vp1_members)), (q_p1_moves, .inl (cI, 6, .inl vp1_moves)), (q_p1_digits, .inl (cI, 6, .inl vp1_digits)), (q_p1_sizes, .inl (cI, 6, .inl vp1_sizes)), (q_p1_orders, .inl (cI, 30, .inl vp1_orders))] H := hP
  have hD : va_D A [(q_above, .inl (cI, 8, .inl (va_cpy vp1_above vabove (0 : Int32).toNatClampNeg (0 : Int32).toNatClampNeg (8 : Int32).toNatClampNeg))), (q_below, .inl (cI, 8, .inl (va_cpy vp1_below vbelow (0 : Int32).toNatClampNeg (0 : Int32).toNatClampNeg (8 : Int32).toNatClampNeg))), (q_struck, .inl (cI, 5, .inl vstruck)), (q_lots, .inl (cI, 16, .inl vlots)), (q_p1_above, .inl (cI, 8, .inl vp1_above)), (q_p1_below, .inl (cI, 8, .inl vp1_below)), (q_p1_struck, .inl (cI, 5, .inl vp1_struck)), (q_p1_lots, .inl (cI, 16, .inl vp1_lots)), (q_this, .inr (5, [.int u1.1, .ref q_members, .ref q_moves, .ref q_digits, .ref q_sizes, .ref q_orders, .ref q_above, .ref q_below, .ref q_struck, .ref q_lots])), (q_members, .inl (cI, 6, .inl u1.2.1)), (q_moves, .inl (cI, 6, .inl u1.2.2.1)), (q_digits, .inl (cI, 6, .inl u1.2.2.2.1)), (q_sizes, .inl (cI, 6, .inl u1.2.2.2.2.1)), (q_orders, .inl (cI, 30, .inl u1.2.2.2.2.2)), (q_p1, .inr (5, [.int vp1_blocks, .ref q_p1_members, .ref q_p1_moves, .ref q_p1_digits, .ref q_p1_sizes, .ref q_p1_orders, .ref q_p1_above, .ref q_p1_below, .ref q_p1_struck, .ref q_p1_lots])), (q_p1_members, .inl (cI, 6, .inl vp1_members)), (q_p1_moves, .inl (cI, 6, .inl vp1_moves)), (q_p1_digits, .inl (cI, 6, .inl vp1_digits)), (q_p1_sizes, .inl (cI, 6, .inl vp1_sizes)), (q_p1_orders, .inl (cI, 30, .inl vp1_orders))] := hD
  refine lv_aload_n hx hb dX5_takeAll_35 rfl (lv_at hl 1 rfl) ?_
  refine p_get (D := (dC, dI)) (ci := 5) (v := .ref q_p1_struck) (C := RX5) (T := TX5) (N := 10) 8 fX5_8 hx hb hG inlX5 hown hK.1 hP 14 rfl rfl (by decide) (hG _ mw_60) rfl dX5_takeAll_36 ?_
  refine lv_iconst (v := (0 : Int32)) hx hb dX5_takeAll_39 (by decide) ?_
  refine lv_aload_n hx hb dX5_takeAll_40 rfl (lv_at hl 0 rfl) ?_
  refine p_get (D := (dC, dI)) (ci := 5) (v := .ref q_struck) (C := RX5) (T := TX5) (N := 10) 8 fX5_8 hx hb hG inlX5 hown hK.1 hP 8 rfl rfl (by decide) (hG _ mw_60) rfl dX5_takeAll_41 ?_
  refine lv_iconst (v := (0 : Int32)) hx hb dX5_takeAll_44 (by decide) ?_
  refine lv_iconst (v := (5 : Int32)) hx hb dX5_takeAll_45 (by decide) ?_
  refine va_copyi hx hb (hml.trans hl.1.symm) hown (hG _ mw_234) (hG _ mw_235) (hG _ mw_236) (hG _ mw_237) hK.1 hP hD hS 6 2 0 0 rfl rfl rfl rfl rfl (by decide) (by decide) (by decide) (by decide) (by decide) (fun _ _ => rfl) (Nat.le_of_ble_eq_true rfl) (Nat.le_of_ble_eq_true rfl) dX5_takeAll_46 (fun H locs hP hD hS => ?_)
  have hP : va_P (dC, dI) classes [(q_above, .inl (cI, 8, .inl (va_cpy vp1_above vabove (0 : Int32).toNatClampNeg (0 : Int32).toNatClampNeg (8 : Int32).toNatClampNeg))), (q_below, .inl (cI, 8, .inl (va_cpy vp1_below vbelow (0 : Int32).toNatClampNeg (0 : Int32).toNatClampNeg (8 : Int32).toNatClampNeg))), (q_struck, .inl (cI, 5, .inl (va_cpy vp1_struck vstruck (0 : Int32).toNatClampNeg (0 : Int32).toNatClampNeg (5 : Int32).toNatClampNeg))), (q_lots, .inl (cI, 16, .inl vlots)), (q_p1_above, .inl (cI, 8, .inl vp1_above)), (q_p1_below, .inl (cI, 8, .inl vp1_below)), (q_p1_struck, .inl (cI, 5, .inl vp1_struck)), (q_p1_lots, .inl (cI, 16, .inl vp1_lots)), (q_this, .inr (5, [.int u1.1, .ref q_members, .ref q_moves, .ref q_digits, .ref q_sizes, .ref q_orders, .ref q_above, .ref q_below, .ref q_struck, .ref q_lots])), (q_members, .inl (cI, 6, .inl u1.2.1)), (q_moves, .inl (cI, 6, .inl u1.2.2.1)), (q_digits, .inl (cI, 6, .inl u1.2.2.2.1)), (q_sizes, .inl (cI, 6, .inl u1.2.2.2.2.1)), (q_orders, .inl (cI, 30, .inl u1.2.2.2.2.2)), (q_p1, .inr (5, [.int vp1_blocks, .ref q_p1_members, .ref q_p1_moves, .ref q_p1_digits, .ref q_p1_sizes, .ref q_p1_orders, .ref q_p1_above, .ref q_p1_below, .ref q_p1_struck, .ref q_p1_lots])), (q_p1_members, .inl (cI, 6, .inl vp1_members)), (q_p1_moves, .inl (cI, 6, .inl vp1_moves)), (q_p1_digits, .inl (cI, 6, .inl vp1_digits)), (q_p1_sizes, .inl (cI, 6, .inl vp1_sizes)), (q_p1_orders, .inl (cI, 30, .inl vp1_orders))] H := hP
  have hD : va_D A [(q_above, .inl (cI, 8, .inl (va_cpy vp1_above vabove (0 : Int32).toNatClampNeg (0 : Int32).toNatClampNeg (8 : Int32).toNatClampNeg))), (q_below, .inl (cI, 8, .inl (va_cpy vp1_below vbelow (0 : Int32).toNatClampNeg (0 : Int32).toNatClampNeg (8 : Int32).toNatClampNeg))), (q_struck, .inl (cI, 5, .inl (va_cpy vp1_struck vstruck (0 : Int32).toNatClampNeg (0 : Int32).toNatClampNeg (5 : Int32).toNatClampNeg))), (q_lots, .inl (cI, 16, .inl vlots)), (q_p1_above, .inl (cI, 8, .inl vp1_above)), (q_p1_below, .inl (cI, 8, .inl vp1_below)), (q_p1_struck, .inl (cI, 5, .inl vp1_struck)), (q_p1_lots, .inl (cI, 16, .inl vp1_lots)), (q_this, .inr (5, [.int u1.1, .ref q_members, .ref q_moves, .ref q_digits, .ref q_sizes, .ref q_orders, .ref q_above, .ref q_below, .ref q_struck, .ref q_lots])), (q_members, .inl (cI, 6, .inl u1.2.1)), (q_moves, .inl (cI, 6, .inl u1.2.2.1)), (q_digits, .inl (cI, 6, .inl u1.2.2.2.1)), (q_sizes, .inl (cI, 6, .inl u1.2.2.2.2.1)), (q_orders, .inl (cI, 30, .inl u1.2.2.2.2.2)), (q_p1, .inr (5, [.int vp1_blocks, .ref q_p1_members, .ref q_p1_moves, .ref q_p1_digits, .ref q_p1_sizes, .ref q_p1_orders, .ref q_p1_above, .ref q_p1_below, .ref q_p1_struck, .ref q_p1_lots])), (q_p1_members, .inl (cI, 6, .inl vp1_members)), (q_p1_moves, .inl (cI, 6, .inl vp1_moves)), (q_p1_digits, .inl (cI, 6, .inl vp1_digits)), (q_p1_sizes, .inl (cI, 6, .inl vp1_sizes)), (q_p1_orders, .inl (cI, 30, .inl vp1_orders))] := hD
  refine lv_aload_n hx hb dX5_takeAll_49 rfl (lv_at hl 1 rfl) ?_
  refine p_get (D := (dC, dI)) (ci := 5) (v := .ref q_p1_lots) (C := RX5) (T := TX5) (N := 10) 9 fX5_9 hx hb hG inlX5 hown hK.1 hP 14 rfl rfl (by decide) (hG _ mw_61) rfl dX5_takeAll_50 ?_
  refine lv_iconst (v := (0 : Int32)) hx hb dX5_takeAll_53 (by decide) ?_
  refine lv_aload_n hx hb dX5_takeAll_54 rfl (lv_at hl 0 rfl) ?_
  refine p_get (D := (dC, dI)) (ci := 5) (v := .ref q_lots) (C := RX5) (T := TX5) (N := 10) 9 fX5_9 hx hb hG inlX5 hown hK.1 hP 8 rfl rfl (by decide) (hG _ mw_61) rfl dX5_takeAll_55 ?_
  refine lv_iconst (v := (0 : Int32)) hx hb dX5_takeAll_58 (by decide) ?_
  refine lv_bipush (v := (16 : Int32)) hx hb dX5_takeAll_59 (by decide) ?_
  refine va_copyi hx hb (hml.trans hl.1.symm) hown (hG _ mw_234) (hG _ mw_235) (hG _ mw_236) (hG _ mw_237) hK.1 hP hD hS 7 3 0 0 rfl rfl rfl rfl rfl (by decide) (by decide) (by decide) (by decide) (by decide) (fun _ _ => rfl) (Nat.le_of_ble_eq_true rfl) (Nat.le_of_ble_eq_true rfl) dX5_takeAll_61 (fun H locs hP hD hS => ?_)
  have hP : va_P (dC, dI) classes [(q_above, .inl (cI, 8, .inl (va_cpy vp1_above vabove (0 : Int32).toNatClampNeg (0 : Int32).toNatClampNeg (8 : Int32).toNatClampNeg))), (q_below, .inl (cI, 8, .inl (va_cpy vp1_below vbelow (0 : Int32).toNatClampNeg (0 : Int32).toNatClampNeg (8 : Int32).toNatClampNeg))), (q_struck, .inl (cI, 5, .inl (va_cpy vp1_struck vstruck (0 : Int32).toNatClampNeg (0 : Int32).toNatClampNeg (5 : Int32).toNatClampNeg))), (q_lots, .inl (cI, 16, .inl (va_cpy vp1_lots vlots (0 : Int32).toNatClampNeg (0 : Int32).toNatClampNeg (16 : Int32).toNatClampNeg))), (q_p1_above, .inl (cI, 8, .inl vp1_above)), (q_p1_below, .inl (cI, 8, .inl vp1_below)), (q_p1_struck, .inl (cI, 5, .inl vp1_struck)), (q_p1_lots, .inl (cI, 16, .inl vp1_lots)), (q_this, .inr (5, [.int u1.1, .ref q_members, .ref q_moves, .ref q_digits, .ref q_sizes, .ref q_orders, .ref q_above, .ref q_below, .ref q_struck, .ref q_lots])), (q_members, .inl (cI, 6, .inl u1.2.1)), (q_moves, .inl (cI, 6, .inl u1.2.2.1)), (q_digits, .inl (cI, 6, .inl u1.2.2.2.1)), (q_sizes, .inl (cI, 6, .inl u1.2.2.2.2.1)), (q_orders, .inl (cI, 30, .inl u1.2.2.2.2.2)), (q_p1, .inr (5, [.int vp1_blocks, .ref q_p1_members, .ref q_p1_moves, .ref q_p1_digits, .ref q_p1_sizes, .ref q_p1_orders, .ref q_p1_above, .ref q_p1_below, .ref q_p1_struck, .ref q_p1_lots])), (q_p1_members, .inl (cI, 6, .inl vp1_members)), (q_p1_moves, .inl (cI, 6, .inl vp1_moves)), (q_p1_digits, .inl (cI, 6, .inl vp1_digits)), (q_p1_sizes, .inl (cI, 6, .inl vp1_sizes)), (q_p1_orders, .inl (cI, 30, .inl vp1_orders))] H := hP
  have hD : va_D A [(q_above, .inl (cI, 8, .inl (va_cpy vp1_above vabove (0 : Int32).toNatClampNeg (0 : Int32).toNatClampNeg (8 : Int32).toNatClampNeg))), (q_below, .inl (cI, 8, .inl (va_cpy vp1_below vbelow (0 : Int32).toNatClampNeg (0 : Int32).toNatClampNeg (8 : Int32).toNatClampNeg))), (q_struck, .inl (cI, 5, .inl (va_cpy vp1_struck vstruck (0 : Int32).toNatClampNeg (0 : Int32).toNatClampNeg (5 : Int32).toNatClampNeg))), (q_lots, .inl (cI, 16, .inl (va_cpy vp1_lots vlots (0 : Int32).toNatClampNeg (0 : Int32).toNatClampNeg (16 : Int32).toNatClampNeg))), (q_p1_above, .inl (cI, 8, .inl vp1_above)), (q_p1_below, .inl (cI, 8, .inl vp1_below)), (q_p1_struck, .inl (cI, 5, .inl vp1_struck)), (q_p1_lots, .inl (cI, 16, .inl vp1_lots)), (q_this, .inr (5, [.int u1.1, .ref q_members, .ref q_moves, .ref q_digits, .ref q_sizes, .ref q_orders, .ref q_above, .ref q_below, .ref q_struck, .ref q_lots])), (q_members, .inl (cI, 6, .inl u1.2.1)), (q_moves, .inl (cI, 6, .inl u1.2.2.1)), (q_digits, .inl (cI, 6, .inl u1.2.2.2.1)), (q_sizes, .inl (cI, 6, .inl u1.2.2.2.2.1)), (q_orders, .inl (cI, 30, .inl u1.2.2.2.2.2)), (q_p1, .inr (5, [.int vp1_blocks, .ref q_p1_members, .ref q_p1_moves, .ref q_p1_digits, .ref q_p1_sizes, .ref q_p1_orders, .ref q_p1_above, .ref q_p1_below, .ref q_p1_struck, .ref q_p1_lots])), (q_p1_members, .inl (cI, 6, .inl vp1_members)), (q_p1_moves, .inl (cI, 6, .inl vp1_moves)), (q_p1_digits, .inl (cI, 6, .inl vp1_digits)), (q_p1_sizes, .inl (cI, 6, .inl vp1_sizes)), (q_p1_orders, .inl (cI, 30, .inl vp1_orders))] := hD
  have hf := osi hf
  have hP : va_P (dC, dI) classes [(q_this, .inr (5, [.int u1.1, .ref q_members, .ref q_moves, .ref q_digits, .ref q_sizes, .ref q_orders, .ref q_above, .ref q_below, .ref q_struck, .ref q_lots])), (q_members, .inl (cI, 6, .inl u1.2.1)), (q_moves, .inl (cI, 6, .inl u1.2.2.1)), (q_digits, .inl (cI, 6, .inl u1.2.2.2.1)), (q_sizes, .inl (cI, 6, .inl u1.2.2.2.2.1)), (q_orders, .inl (cI, 30, .inl u1.2.2.2.2.2)), (q_above, .inl (cI, 8, .inl (va_cpy vp1_above vabove (0 : Int32).toNatClampNeg (0 : Int32).toNatClampNeg (8 : Int32).toNatClampNeg))), (q_below, .inl (cI, 8, .inl (va_cpy vp1_below vbelow (0 : Int32).toNatClampNeg (0 : Int32).toNatClampNeg (8 : Int32).toNatClampNeg))), (q_struck, .inl (cI, 5, .inl (va_cpy vp1_struck vstruck (0 : Int32).toNatClampNeg (0 : Int32).toNatClampNeg (5 : Int32).toNatClampNeg))), (q_lots, .inl (cI, 16, .inl (va_cpy vp1_lots vlots (0 : Int32).toNatClampNeg (0 : Int32).toNatClampNeg (16 : Int32).toNatClampNeg))), (q_p1, .inr (5, [.int vp1_blocks, .ref q_p1_members, .ref q_p1_moves, .ref q_p1_digits, .ref q_p1_sizes, .ref q_p1_orders, .ref q_p1_above, .ref q_p1_below, .ref q_p1_struck, .ref q_p1_lots])), (q_p1_members, .inl (cI, 6, .inl vp1_members)), (q_p1_moves, .inl (cI, 6, .inl vp1_moves)), (q_p1_digits, .inl (cI, 6, .inl vp1_digits)), (q_p1_sizes, .inl (cI, 6, .inl vp1_sizes)), (q_p1_orders, .inl (cI, 30, .inl vp1_orders)), (q_p1_above, .inl (cI, 8, .inl vp1_above)), (q_p1_below, .inl (cI, 8, .inl vp1_below)), (q_p1_struck, .inl (cI, 5, .inl vp1_struck)), (q_p1_lots, .inl (cI, 16, .inl vp1_lots))] H := hP.sub [8, 9, 10, 11, 12, 13, 0, 1, 2, 3, 14, 15, 16, 17, 18, 19, 4, 5, 6, 7] rfl
  have hD : va_D A [(q_this, .inr (5, [.int u1.1, .ref q_members, .ref q_moves, .ref q_digits, .ref q_sizes, .ref q_orders, .ref q_above, .ref q_below, .ref q_struck, .ref q_lots])), (q_members, .inl (cI, 6, .inl u1.2.1)), (q_moves, .inl (cI, 6, .inl u1.2.2.1)), (q_digits, .inl (cI, 6, .inl u1.2.2.2.1)), (q_sizes, .inl (cI, 6, .inl u1.2.2.2.2.1)), (q_orders, .inl (cI, 30, .inl u1.2.2.2.2.2)), (q_above, .inl (cI, 8, .inl (va_cpy vp1_above vabove (0 : Int32).toNatClampNeg (0 : Int32).toNatClampNeg (8 : Int32).toNatClampNeg))), (q_below, .inl (cI, 8, .inl (va_cpy vp1_below vbelow (0 : Int32).toNatClampNeg (0 : Int32).toNatClampNeg (8 : Int32).toNatClampNeg))), (q_struck, .inl (cI, 5, .inl (va_cpy vp1_struck vstruck (0 : Int32).toNatClampNeg (0 : Int32).toNatClampNeg (5 : Int32).toNatClampNeg))), (q_lots, .inl (cI, 16, .inl (va_cpy vp1_lots vlots (0 : Int32).toNatClampNeg (0 : Int32).toNatClampNeg (16 : Int32).toNatClampNeg))), (q_p1, .inr (5, [.int vp1_blocks, .ref q_p1_members, .ref q_p1_moves, .ref q_p1_digits, .ref q_p1_sizes, .ref q_p1_orders, .ref q_p1_above, .ref q_p1_below, .ref q_p1_struck, .ref q_p1_lots])), (q_p1_members, .inl (cI, 6, .inl vp1_members)), (q_p1_moves, .inl (cI, 6, .inl vp1_moves)), (q_p1_digits, .inl (cI, 6, .inl vp1_digits)), (q_p1_sizes, .inl (cI, 6, .inl vp1_sizes)), (q_p1_orders, .inl (cI, 30, .inl vp1_orders)), (q_p1_above, .inl (cI, 8, .inl vp1_above)), (q_p1_below, .inl (cI, 8, .inl vp1_below)), (q_p1_struck, .inl (cI, 5, .inl vp1_struck)), (q_p1_lots, .inl (cI, 16, .inl vp1_lots))] := hD.sub [8, 9, 10, 11, 12, 13, 0, 1, 2, 3, 14, 15, 16, 17, 18, 19, 4, 5, 6, 7] (by decide) rfl
  exact x_vW hx hb hr hlocks hP hD hS (by have h9 := congrArg (fun z : Int32 × (Nat → Int32) × (Nat → Int32) × (Nat → Int32) × (Nat → Int32) × (Nat → Int32) × (Nat → Int32) × (Nat → Int32) × (Nat → Int32) × (Nat → Int32) => (w_X5_takeAll cI cJ cB q_this q_p1 q_members q_moves q_digits q_sizes q_orders q_above q_below q_struck q_lots q_p1_members q_p1_moves q_p1_digits q_p1_sizes q_p1_orders q_p1_above q_p1_below q_p1_struck q_p1_lots z.1 z.2.1 z.2.2.1 z.2.2.2.1 z.2.2.2.2.1 z.2.2.2.2.2.1 z.2.2.2.2.2.2.1 z.2.2.2.2.2.2.2.1 z.2.2.2.2.2.2.2.2.1 z.2.2.2.2.2.2.2.2.2 vp1_blocks vp1_members vp1_moves vp1_digits vp1_sizes vp1_orders vp1_above vp1_below vp1_struck vp1_lots)) hf; exact h9) dX5_takeAll_64
