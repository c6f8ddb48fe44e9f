theorem gl_X0_126 {R : Room} {s : State} {args : Array Value} {k : Cond} (ht : ∀ w ∈ k :: wsL_law, w.before args s = true) (hN : nestOK s) (hR : (kR 0).frames + 1 ≤ R.frames ∧ 8 + (1 + 11) + (kR 0).locals ≤ R.locals) : va_CN R s args RX0 126 yX6_isName "SmokeHall" cX6_isName 1 (some .boolean) (Cond.code yX6_isName cX6_isName 1 (some .boolean) :: wsL_law) (kR 0) 0 0 1 ∧ (Cond.static yX6_isName).before args s = true ∧ True := ⟨va_cnB 1 ht (gC mw_221) rfl rfl rfl (hN _ (by simp [nestW, yX6_isName, RX0, RX6])) (ht _ (List.mem_cons_of_mem _ mw_2)) (by decide +kernel) hR, ht _ (List.mem_cons_of_mem _ mw_220), trivial⟩
theorem gl_X0_130 {R : Room} {s : State} {args : Array Value} {k : Cond} (ht : ∀ w ∈ k :: wsL_law, w.before args s = true) (hR : (kR 0).frames + 1 ≤ R.frames ∧ 8 + (5 + 11) + (kR 0).locals ≤ R.locals) : CallW R s args RX0 RX5 130 yX5_place cX5_place 5 (some .int) (Cond.code yX5_place cX5_place 5 (some .int) :: wsL_law) (kR 0) 0 0 2 := cwV 2 ht (gV mw_225 mw_494 mw_223 mw_224 mw_19) rfl rfl rfl (by decide +kernel) hR
theorem gl_X0_107 {R : Room} {s : State} {args : Array Value} {k : Cond} (ht : ∀ w ∈ k :: wsL_law, w.before args s = true) (hR : (kR 0).frames + 1 ≤ R.frames ∧ 8 + (6 + 11) + (kR 0).locals ≤ R.locals) : CallW R s args RX0 RX5 107 yX5_firstAlive cX5_firstAlive 6 (some .int) (Cond.code yX5_firstAlive cX5_firstAlive 6 (some .int) :: wsL_law) (kR 0) 0 0 3 := cwV 3 ht (gV mw_498 mw_495 mw_496 mw_497 mw_19) rfl rfl rfl (by decide +kernel) hR
theorem gl_X0_115 {R : Room} {s : State} {args : Array Value} {k : Cond} (ht : ∀ w ∈ k :: wsL_law, w.before args s = true) (hR : (kR 1).frames + 1 ≤ R.frames ∧ 8 + (9 + 11) + (kR 1).locals ≤ R.locals) : CallW R s args RX0 RX0 115 yX0_byNext cX0_byNext 9 (some .int) (Cond.code yX0_byNext cX0_byNext 9 (some .int) :: wsL_law) (kR 1) 0 0 4 := cwV 4 ht (gV mw_493 mw_490 mw_491 mw_492 mw_23) rfl rfl rfl (by decide +kernel) hR
theorem gl_X0_119 {R : Room} {s : State} {args : Array Value} {k : Cond} (ht : ∀ w ∈ k :: wsL_law, w.before args s = true) (hR : (kR 0).frames + 1 ≤ R.frames ∧ 8 + (9 + 11) + (kR 0).locals ≤ R.locals) : CallW R s args RX0 RX0 119 yX0_byLead cX0_byLead 9 (some .int) (Cond.code yX0_byLead cX0_byLead 9 (some .int) :: wsL_law) (kR 0) 0 0 3 := cwV 3 ht (gV mw_502 mw_499 mw_500 mw_501 mw_23) rfl rfl rfl (by decide +kernel) hR
theorem gl_X0_123 {R : Room} {s : State} {args : Array Value} {k : Cond} (ht : ∀ w ∈ k :: wsL_law, w.before args s = true) (hR : (kR 1).frames + 1 ≤ R.frames ∧ 8 + (7 + 11) + (kR 1).locals ≤ R.locals) : CallW R s args RX0 RX0 123 yX0_byFollow cX0_byFollow 7 (some .int) (Cond.code yX0_byFollow cX0_byFollow 7 (some .int) :: wsL_law) (kR 1) 0 0 3 := cwV 3 ht (gV mw_508 mw_505 mw_506 mw_507 mw_23) rfl rfl rfl (by decide +kernel) hR
theorem gl_X0_86 {R : Room} {s : State} {args : Array Value} {k : Cond} (ht : ∀ w ∈ k :: wsL_law, w.before args s = true) (hR : (kR 0).frames + 1 ≤ R.frames ∧ 8 + (2 + 11) + (kR 0).locals ≤ R.locals) : CallW R s args RX0 RX0 86 yX0_firmBallot cX0_firmBallot 2 (some .int) (Cond.code yX0_firmBallot cX0_firmBallot 2 (some .int) :: wsL_law) (kR 0) 0 0 1 := cwV 1 ht (gV mw_472 mw_469 mw_470 mw_471 mw_23) rfl rfl rfl (by decide +kernel) hR
theorem gl_X0_37 {R : Room} {s : State} {args : Array Value} {k : Cond} (ht : ∀ w ∈ k :: wsL_law, w.before args s = true) (hR : (kR 0).frames + 1 ≤ R.frames ∧ 8 + (4 + 11) + (kR 0).locals ≤ R.locals) : CallB R s args RX0 37 yJ7_fill_53178 cJ7_fill_53178 4 none (Cond.code yJ7_fill_53178 cJ7_fill_53178 4 none :: wsL_law) (kR 0) 0 0 2 ∧ (Cond.static yJ7_fill_53178).before args s = true := va_cwS 2 ht (gS mw_65 mw_78 mw_63 mw_64) rfl rfl rfl (by decide +kernel) hR
theorem gl_X0_96 {R : Room} {s : State} {args : Array Value} {k : Cond} (ht : ∀ w ∈ k :: wsL_law, w.before args s = true) (hR : (kR 0).frames + 1 ≤ R.frames ∧ 8 + (4 + 11) + (kR 0).locals ≤ R.locals) : CallW R s args RX0 RX0 96 yX0_lastName cX0_lastName 4 (some .int) (Cond.code yX0_lastName cX0_lastName 4 (some .int) :: wsL_law) (kR 0) 0 0 0 := cwV 0 ht (gV mw_481 mw_478 mw_479 mw_480 mw_23) rfl rfl rfl (by decide +kernel) hR
theorem gl_X0_100 {R : Room} {s : State} {args : Array Value} {k : Cond} (ht : ∀ w ∈ k :: wsL_law, w.before args s = true) (hR : (kR 0).frames + 1 ≤ R.frames ∧ 8 + (4 + 11) + (kR 0).locals ≤ R.locals) : CallW R s args RX0 RX5 100 yX5_namesAlive cX5_namesAlive 4 (some .int) (Cond.code yX5_namesAlive cX5_namesAlive 4 (some .int) :: wsL_law) (kR 0) 0 0 1 := cwV 1 ht (gV mw_485 mw_482 mw_483 mw_484 mw_19) rfl rfl rfl (by decide +kernel) hR
theorem gl_X0_103 {R : Room} {s : State} {args : Array Value} {k : Cond} (ht : ∀ w ∈ k :: wsL_law, w.before args s = true) (hR : (kR 2).frames + 1 ≤ R.frames ∧ 8 + (6 + 11) + (kR 2).locals ≤ R.locals) : CallW R s args RX0 RX0 103 yX0_byMove cX0_byMove 6 (some .int) (Cond.code yX0_byMove cX0_byMove 6 (some .int) :: wsL_law) (kR 2) 0 0 5 := cwV 5 ht (gV mw_489 mw_486 mw_487 mw_488 mw_23) rfl rfl rfl (by decide +kernel) hR
theorem gl_X0_111 {R : Room} {s : State} {args : Array Value} {k : Cond} (ht : ∀ w ∈ k :: wsL_law, w.before args s = true) (hR : (kR 1).frames + 1 ≤ R.frames ∧ 8 + (3 + 11) + (kR 1).locals ≤ R.locals) : CallW R s args RX0 RX0 111 yX0_tally cX0_tally 3 none (Cond.code yX0_tally cX0_tally 3 none :: wsL_law) (kR 1) 0 0 1 := cwV 1 ht (gV mw_512 mw_509 mw_510 mw_511 mw_23) rfl rfl rfl (by decide +kernel) hR
theorem gl_X0_142 {R : Room} {s : State} {args : Array Value} {k : Cond} (ht : ∀ w ∈ k :: wsL_law, w.before args s = true) (hR : (kR 2).frames + 1 ≤ R.frames ∧ 8 + (4 + 11) + (kR 2).locals ≤ R.locals) : CallW R s args RX0 RX5 142 yX5_needed cX5_needed 4 (some .int) (Cond.code yX5_needed cX5_needed 4 (some .int) :: wsL_law) (kR 2) 0 0 1 := cwV 1 ht (gV mw_350 mw_518 mw_348 mw_349 mw_19) rfl rfl rfl (by decide +kernel) hR
theorem gl_X0_62 {R : Room} {s : State} {args : Array Value} {k : Cond} (ht : ∀ w ∈ k :: wsL_law, w.before args s = true) (hR : (kR 0).frames + 1 ≤ R.frames ∧ 8 + (1 + 11) + (kR 0).locals ≤ R.locals) : CallW R s args RX0 RX0 62 yX0_isOver cX0_isOver 1 (some .boolean) (Cond.code yX0_isOver cX0_isOver 1 (some .boolean) :: wsL_law) (kR 0) 0 0 0 := cwV 0 ht (gV mw_460 mw_457 mw_458 mw_459 mw_23) rfl rfl rfl (by decide +kernel) hR
theorem gl_X0_66 {R : Room} {s : State} {args : Array Value} {k : Cond} (ht : ∀ w ∈ k :: wsL_law, w.before args s = true) (hR : (kR 1).frames + 1 ≤ R.frames ∧ 8 + (4 + 11) + (kR 1).locals ≤ R.locals) : CallW R s args RX0 RX0 66 yX0_draw cX0_draw 4 (some .int) (Cond.code yX0_draw cX0_draw 4 (some .int) :: wsL_law) (kR 1) 0 0 1 := cwV 1 ht (gV mw_464 mw_461 mw_462 mw_463 mw_23) rfl rfl rfl (by decide +kernel) hR
theorem gl_X0_70 {R : Room} {s : State} {args : Array Value} {k : Cond} (ht : ∀ w ∈ k :: wsL_law, w.before args s = true) (hR : (kR 3).frames + 1 ≤ R.frames ∧ 8 + (8 + 11) + (kR 3).locals ≤ R.locals) : CallW R s args RX0 RX0 70 yX0_write cX0_write 8 none (Cond.code yX0_write cX0_write 8 none :: wsL_law) (kR 3) 0 0 3 := cwV 3 ht (gV mw_476 mw_473 mw_474 mw_475 mw_23) rfl rfl rfl (by decide +kernel) hR
theorem gl_X0_74 {R : Room} {s : State} {args : Array Value} {k : Cond} (ht : ∀ w ∈ k :: wsL_law, w.before args s = true) (hR : (kR 3).frames + 1 ≤ R.frames ∧ 8 + (5 + 11) + (kR 3).locals ≤ R.locals) : CallW R s args RX0 RX0 74 yX0_winner cX0_winner 5 (some .int) (Cond.code yX0_winner cX0_winner 5 (some .int) :: wsL_law) (kR 3) 0 0 2 := cwV 2 ht (gV mw_517 mw_514 mw_515 mw_516 mw_23) rfl rfl rfl (by decide +kernel) hR
theorem gl_X0_55 {R : Room} {s : State} {args : Array Value} {k : Cond} (ht : ∀ w ∈ k :: wsL_law, w.before args s = true) (hR : (kR 1).frames + 1 ≤ R.frames ∧ 8 + (1 + 11) + (kR 1).locals ≤ R.locals) : CallW R s args RX0 RX0 55 yX0_restart cX0_restart 1 none (Cond.code yX0_restart cX0_restart 1 none :: wsL_law) (kR 1) 0 0 0 := cwV 0 ht (gV mw_241 mw_625 mw_239 mw_240 mw_23) rfl rfl rfl (by decide +kernel) hR
theorem gl_X0_58 {R : Room} {s : State} {args : Array Value} {k : Cond} (ht : ∀ w ∈ k :: wsL_law, w.before args s = true) (hR : (kR 4).frames + 1 ≤ R.frames ∧ 8 + (5 + 11) + (kR 4).locals ≤ R.locals) : CallW R s args RX0 RX0 58 yX0_goOn cX0_goOn 5 none (Cond.code yX0_goOn cX0_goOn 5 none :: wsL_law) (kR 4) 0 0 2 := cwV 2 ht (gV mw_456 mw_626 mw_454 mw_455 mw_23) rfl rfl rfl (by decide +kernel) hR
def f_X0_byFollow_L79 (N : Nat) (vp1_sizes : Nat → Int32) (vp1_orders : Nat → Int32) (x2 : Int32) (x3 : Int32) : Option (Int32) := ((f_X5_firstAlive N vp1_sizes vp1_orders x2 (0 : Int32) x3).bind (fun u1 => some u1))
def f_X0_byFollow_L56 (N : Nat) (vp1_sizes : Nat → Int32) (vp1_orders : Nat → Int32) (x2 : Int32) (x3 : Int32) (x5 : Int32) (z0 : Int32) : Option (Int32) := (if z0 = 0 then (f_X0_byFollow_L79 N vp1_sizes vp1_orders x2 x3) else ((f_X5_place N vp1_sizes vp1_orders x2 x5).bind (fun u3 => (if u3 = (-1 : Int32) then (f_X0_byFollow_L79 N vp1_sizes vp1_orders x2 x3) else some x5))))
def f_X0_byFollow_L55 (N : Nat) (vp1_sizes : Nat → Int32) (vp1_orders : Nat → Int32) (x2 : Int32) (x3 : Int32) (x5 : Int32) : Option (Int32) := (f_X0_byFollow_L56 N vp1_sizes vp1_orders x2 x3 x5 (0 : Int32))
def f_X0_byFollow_L31 (N : Nat) (vp1_sizes : Nat → Int32) (vp1_orders : Nat → Int32) (x2 : Int32) (x3 : Int32) (z0 : Int32) : Option (Int32) := ((f_X6_isName z0).bind (fun u5 => (if u5 = 0 then (f_X0_byFollow_L55 N vp1_sizes vp1_orders x2 x3 z0) else (if ((x3 >>> (z0 &&& 31)) &&& (1 : Int32)) = (1 : Int32) then (f_X0_byFollow_L56 N vp1_sizes vp1_orders x2 x3 z0 (1 : Int32)) else (f_X0_byFollow_L55 N vp1_sizes vp1_orders x2 x3 z0)))))
def f_X0_byFollow_L30 (N : Nat) (vp1_sizes : Nat → Int32) (vp1_orders : Nat → Int32) (x2 : Int32) (x3 : Int32) : Option (Int32) := (f_X0_byFollow_L31 N vp1_sizes vp1_orders x2 x3 (-1 : Int32))
def f_X0_byFollow (N : Nat) (vwrote : Nat → Int32) (vp1_digits : Nat → Int32) (vp1_sizes : Nat → Int32) (vp1_orders : Nat → Int32) (x2 : Int32) (x3 : Int32) : Option (Int32) := (if x2 < 0 ∨ 6 ≤ x2.toNatClampNeg then none else (if (vp1_digits x2.toNatClampNeg) < 0 then (f_X0_byFollow_L30 N vp1_sizes vp1_orders x2 x3) else (if (6 : Int32) ≤ (vp1_digits x2.toNatClampNeg) then (f_X0_byFollow_L30 N vp1_sizes vp1_orders x2 x3) else (if (vp1_digits x2.toNatClampNeg) < 0 ∨ 6 ≤ (vp1_digits x2.toNatClampNeg).toNatClampNeg then none else (f_X0_byFollow_L31 N vp1_sizes vp1_orders x2 x3 (vwrote (vp1_digits x2.toNatClampNeg).toNatClampNeg))))))
def w_X0_byFollow (cI cJ cB : ClassId) (q_this q_p1 q_wrote q_writes q_counts q_p1_members q_p1_moves q_p1_digits q_p1_sizes q_p1_orders q_p1_above q_p1_below q_p1_struck q_p1_lots : Nat) (vballots : Int32) (vused : Int32) (vchosen : Int32) (vwaiter : Int32) (vwait : Int32) (vwrote : Nat → Int32) (vp1_blocks : Int32) (vp1_digits : Nat → Int32) (vp1_sizes : Nat → Int32) (vp1_orders : Nat → Int32) : va_W := [(q_this, .inr (0, [.int vballots, .int vused, .int vchosen, .int vwaiter, .int vwait, .ref q_wrote, .ref q_writes, .ref q_counts])), (q_wrote, .inl (cI, 6, .inl vwrote)), (q_p1, .inr (5, [.int vp1_blocks, .ref q_p1_members, .ref q_p1_moves, .ref q_p1_digits, .ref q_p1_sizes, .ref q_p1_orders, .ref q_p1_above, .ref q_p1_below, .ref q_p1_struck, .ref q_p1_lots])), (q_p1_digits, .inl (cI, 6, .inl vp1_digits)), (q_p1_sizes, .inl (cI, 6, .inl vp1_sizes)), (q_p1_orders, .inl (cI, 30, .inl vp1_orders))]
set_option maxHeartbeats 4000000 in
set_option maxRecDepth 100000 in
theorem c_X0_byFollow (l : Launch) (dC : Nat → ClassId) (dI : Nat → Nat → Nat) (cI cJ cB : ClassId) (q_this q_p1 q_wrote q_writes q_counts q_p1_members q_p1_moves q_p1_digits q_p1_sizes q_p1_orders q_p1_above q_p1_below q_p1_struck q_p1_lots : Nat) (vballots : Int32) (vused : Int32) (vchosen : Int32) (vwaiter : Int32) (vwait : Int32) (vwrote : Nat → Int32) (vp1_blocks : Int32) (vp1_digits : Nat → Int32) (vp1_sizes : Nat → Int32) (vp1_orders : Nat → Int32) (x2 : Int32) (x3 : Int32) {N : Nat} {r : Int32} (hf : f_X0_byFollow N vwrote vp1_digits vp1_sizes vp1_orders x2 x3 = some r) : Met l yX0_byFollow (Cond.code yX0_byFollow cX0_byFollow 7 (some .int) :: wsL_law) (kR 1) (va_Pc [.ref q_this, .ref q_p1, .int x2, .int x3] (pR (dC, dI) cI cJ cB (w_X0_byFollow cI cJ cB q_this q_p1 q_wrote q_writes q_counts q_p1_members q_p1_moves q_p1_digits q_p1_sizes q_p1_orders q_p1_above q_p1_below q_p1_struck q_p1_lots vballots vused vchosen vwaiter vwait vwrote vp1_blocks vp1_digits vp1_sizes vp1_orders))) (qRi r) 0 0 (fun _ => False) := by
  refine k_ro (cc := cX0_byFollow) (n := 7) (ret := (some .int)) (by decide) (Nat.le_of_ble_eq_true rfl) ?_
  intro p e s m args below meth c ls hx hb hr hml hts hown hlocks hK hP hl
  have hP : va_P (dC, dI) classes [(q_this, .inr (0, [.int vballots, .int vused, .int vchosen, .int vwaiter, .int vwait, .ref q_wrote, .ref q_writes, .ref q_counts])), (q_wrote, .inl (cI, 6, .inl vwrote)), (q_p1, .inr (5, [.int vp1_blocks, .ref q_p1_members, .ref q_p1_moves, .ref q_p1_digits, .ref q_p1_sizes, .ref q_p1_orders, .ref q_p1_above, .ref q_p1_below, .ref q_p1_struck, .ref q_p1_lots])), (q_p1_digits, .inl (cI, 6, .inl vp1_digits)), (q_p1_sizes, .inl (cI, 6, .inl vp1_sizes)), (q_p1_orders, .inl (cI, 30, .inl vp1_orders))] s.heap := hP
  have hG : ∀ w ∈ wsL_law, w.before args s = true := fun w h => hts w (List.mem_cons_of_mem _ h)
  have hown : s.vm.findClass RX0 = some m.cls := hown
  have hl : lv_has ls 7 [(0, .ref q_this), (1, .ref q_p1), (2, .int x2), (3, .int x3)] := hl
  unfold f_X0_byFollow at hf
  have hJ79 : f_X0_byFollow_L79 N vp1_sizes vp1_orders x2 x3 = some r → ∀ (ls : Array Slot), lv_has ls 7 [(1, .ref q_p1), (2, .int x2), (3, .int x3)] → W p l e (kR 1) s m args below meth c s.heap [] 0 0 (MQ below (qRi r) args s 0 0 (fun _ => False)) (F0 m 79 ls []) := by
    intro  hf ls hl
    unfold f_X0_byFollow_L79 at hf
    refine lv_aload_n hx hb dX0_byFollow_79 rfl (lv_at hl 0 rfl) ?_
    refine lv_iload_n hx hb dX0_byFollow_80 rfl (lv_at hl 1 rfl) ?_
    refine lv_iconst (v := (0 : Int32)) hx hb dX0_byFollow_81 (by decide) ?_
    refine lv_iload_n hx hb dX0_byFollow_82 rfl (lv_at hl 2 rfl) ?_
    obtain ⟨u1, hu1, hf⟩ := ob hf
    refine k_Vi (As := [.int x2, .int (0 : Int32), .int x3]) (rest := []) ⟨hx, hb, hml, hown, hts⟩ hK hP [2, 4, 5] rfl (c_X5_firstAlive l dC dI cI cJ cB q_p1 q_p1_members q_p1_moves q_p1_digits q_p1_sizes q_p1_orders q_p1_above q_p1_below q_p1_struck q_p1_lots vp1_blocks vp1_sizes vp1_orders x2 (0 : Int32) x3 hu1) (gl_X0_107 hts ⟨(Nat.le_of_ble_eq_true rfl), (Nat.le_of_ble_eq_true rfl)⟩) 2 5 rfl rfl rfl rfl hl.1 rfl (Nat.le_of_ble_eq_true rfl) dX0_byFollow_83 ⟨Nat.zero_le _, Nat.zero_le _⟩ ?_
    have hf := osi hf
    exact x_iR hx hb hr hlocks hf dX0_byFollow_86
  have hJ56 : ∀ (x5 : Int32) (z0 : Int32), f_X0_byFollow_L56 N vp1_sizes vp1_orders x2 x3 x5 z0 = some r → ∀ (ls : Array Slot), lv_has ls 7 [(1, .ref q_p1), (2, .int x2), (3, .int x3), (5, .int x5)] → W p l e (kR 1) s m args below meth c s.heap [] 0 0 (MQ below (qRi r) args s 0 0 (fun _ => False)) (F0 m 56 ls [.int z0]) := by
    intro x5 z0 hf ls hl
    unfold f_X0_byFollow_L56 at hf
    refine lv_istore (lv' := [(6, .int z0), (1, .ref q_p1), (2, .int x2), (3, .int x3), (5, .int x5)]) hx hb dX0_byFollow_56 hl (by decide) rfl (fun ls hl => ?_)
    refine lv_iload hx hb dX0_byFollow_58 (lv_at hl 0 rfl) ?_
    refine lv_if_eq (tgt := 79) hx hb dX0_byFollow_60 (by decide) (fun c2 => ?_) (fun c2 => ?_)
    · replace hf := ot hf c2
      exact hJ79  hf ls (lv_sub hl [1, 2, 3] rfl)
    · replace hf := oe hf c2
      refine lv_aload_n hx hb dX0_byFollow_63 rfl (lv_at hl 1 rfl) ?_
      refine lv_iload_n hx hb dX0_byFollow_64 rfl (lv_at hl 2 rfl) ?_
      refine lv_iload hx hb dX0_byFollow_65 (lv_at hl 4 rfl) ?_
      obtain ⟨u3, hu3, hf⟩ := ob hf
      refine k_Vi (As := [.int x2, .int x5]) (rest := []) ⟨hx, hb, hml, hown, hts⟩ hK hP [2, 4, 5] rfl (c_X5_place l dC dI cI cJ cB q_p1 q_p1_members q_p1_moves q_p1_digits q_p1_sizes q_p1_orders q_p1_above q_p1_below q_p1_struck q_p1_lots vp1_blocks vp1_sizes vp1_orders x2 x5 hu3) (gl_X0_130 hts ⟨(Nat.le_of_ble_eq_true rfl), (Nat.le_of_ble_eq_true rfl)⟩) 2 5 rfl rfl rfl rfl hl.1 rfl (Nat.le_of_ble_eq_true rfl) dX0_byFollow_67 ⟨Nat.zero_le _, Nat.zero_le _⟩ ?_
      refine lv_iconst (v := (-1 : Int32)) hx hb dX0_byFollow_70 (by decide) ?_
      refine lv_icmp_eq (tgt := 79) hx hb dX0_byFollow_71 (by decide) (fun c4 => ?_) (fun c4 => ?_)
      · replace hf := ot hf c4
        exact hJ79  hf ls (lv_sub hl [1, 2, 3] rfl)
      · replace hf := oe hf c4
        refine lv_iload hx hb dX0_byFollow_74 (lv_at hl 4 rfl) ?_
        refine lv_goto (tgt := 86) hx hb dX0_byFollow_76 (by decide) ?_
        have hf := osi hf
        exact x_iR hx hb hr hlocks hf dX0_byFollow_86
  have hJ55 : ∀ (x5 : Int32), f_X0_byFollow_L55 N vp1_sizes vp1_orders x2 x3 x5 = some r → ∀ (ls : Array Slot), lv_has ls 7 [(1, .ref q_p1), (2, .int x2), (3, .int x3), (5, .int x5)] → W p l e (kR 1) s m args below meth c s.heap [] 0 0 (MQ below (qRi r) args s 0 0 (fun _ => False)) (F0 m 55 ls []) := by
    intro x5 hf ls hl
    unfold f_X0_byFollow_L55 at hf
    refine lv_iconst (v := (0 : Int32)) hx hb dX0_byFollow_55 (by decide) ?_
    exact hJ56 x5 (0 : Int32) hf ls (lv_sub hl [0, 1, 2, 3] rfl)
  have hJ31 : ∀ (z0 : Int32), f_X0_byFollow_L31 N vp1_sizes vp1_orders x2 x3 z0 = some r → ∀ (ls : Array Slot), lv_has ls 7 [(1, .ref q_p1), (2, .int x2), (3, .int x3)] → W p l e (kR 1) s m args below meth c s.heap [] 0 0 (MQ below (qRi r) args s 0 0 (fun _ => False)) (F0 m 31 ls [.int z0]) := by
    intro z0 hf ls hl
    unfold f_X0_byFollow_L31 at hf
    refine lv_istore (lv' := [(5, .int z0), (1, .ref q_p1), (2, .int x2), (3, .int x3)]) hx hb dX0_byFollow_31 hl (by decide) rfl (fun ls hl => ?_)
    refine lv_iload hx hb dX0_byFollow_33 (lv_at hl 0 rfl) ?_
    obtain ⟨u5, hu5, hf⟩ := ob hf
    refine k_SNi (As := [.int z0]) (rest := []) ⟨hx, hb, hml, hown, hts⟩ hK hP [] rfl (c_X6_isName l dC dI cI cJ cB z0 hu5) (gl_X0_126 hts hK.2 ⟨(Nat.le_of_ble_eq_true rfl), (Nat.le_of_ble_eq_true rfl)⟩) rfl hl.1 rfl (Nat.le_of_ble_eq_true rfl) dX0_byFollow_35 ⟨Nat.zero_le _, Nat.zero_le _⟩ ?_
    refine lv_if_eq (tgt := 55) hx hb dX0_byFollow_38 (by decide) (fun c6 => ?_) (fun c6 => ?_)
    · replace hf := ot hf c6
      exact hJ55 z0 hf ls (lv_sub hl [1, 2, 3, 0] rfl)
    · replace hf := oe hf c6
      refine lv_iload_n hx hb dX0_byFollow_41 rfl (lv_at hl 3 rfl) ?_
      refine lv_iload hx hb dX0_byFollow_42 (lv_at hl 0 rfl) ?_
      refine lv_ishr hx hb dX0_byFollow_44 ?_
      refine lv_iconst (v := (1 : Int32)) hx hb dX0_byFollow_45 (by decide) ?_
      refine lv_iand hx hb dX0_byFollow_46 ?_
      refine lv_iconst (v := (1 : Int32)) hx hb dX0_byFollow_47 (by decide) ?_
      refine lv_icmp_ne (tgt := 55) hx hb dX0_byFollow_48 (by decide) (fun c7 => ?_) (fun c7 => ?_)
      · replace hf := oe hf c7
        exact hJ55 z0 hf ls (lv_sub hl [1, 2, 3, 0] rfl)
      · replace hf := ot hf c7
        refine lv_iconst (v := (1 : Int32)) hx hb dX0_byFollow_51 (by decide) ?_
        refine lv_goto (tgt := 56) hx hb dX0_byFollow_52 (by decide) ?_
        exact hJ56 z0 (1 : Int32) hf ls (lv_sub hl [1, 2, 3, 0] rfl)
  have hJ30 : f_X0_byFollow_L30 N vp1_sizes vp1_orders x2 x3 = some r → ∀ (ls : Array Slot), lv_has ls 7 [(1, .ref q_p1), (2, .int x2), (3, .int x3)] → W p l e (kR 1) s m args below meth c s.heap [] 0 0 (MQ below (qRi r) args s 0 0 (fun _ => False)) (F0 m 30 ls []) := by
    intro  hf ls hl
    unfold f_X0_byFollow_L30 at hf
    refine lv_iconst (v := (-1 : Int32)) hx hb dX0_byFollow_30 (by decide) ?_
    exact hJ31 (-1 : Int32) hf ls (lv_sub hl [0, 1, 2] rfl)
  refine lv_aload_n hx hb dX0_byFollow_0 rfl (lv_at hl 1 rfl) ?_
  refine p_get (D := (dC, dI)) (ci := 5) (v := .ref q_p1_digits) (C := RX5) (T := TX5) (N := 10) 3 fX5_3 hx hb hG inlX5 hown hK.1 hP 2 rfl rfl (by decide) (hG _ mw_468) rfl dX0_byFollow_1 ?_
  refine lv_iload_n hx hb dX0_byFollow_4 rfl (lv_at hl 2 rfl) ?_
  obtain ⟨g8, hf⟩ := og hf
  refine va_iald hx hb hK.1 hP 3 0 rfl rfl g8 dX0_byFollow_5 ?_
  refine lv_istore (lv' := [(4, .int (vp1_digits x2.toNatClampNeg)), (0, .ref q_this), (1, .ref q_p1), (2, .int x2), (3, .int x3)]) hx hb dX0_byFollow_6 hl (by decide) rfl (fun ls hl => ?_)
  refine lv_iload hx hb dX0_byFollow_8 (lv_at hl 0 rfl) ?_
  refine lv_if_lt (tgt := 30) hx hb dX0_byFollow_10 (by decide) (fun c9 => ?_) (fun c9 => ?_)
  · replace hf := ot hf c9
    exact hJ30  hf ls (lv_sub hl [2, 3, 4] rfl)
  · replace hf := oe hf c9
    refine lv_iload hx hb dX0_byFollow_13 (lv_at hl 0 rfl) ?_
    refine lv_bipush (v := (6 : Int32)) hx hb dX0_byFollow_15 (by decide) ?_
    refine lv_icmp_ge (tgt := 30) hx hb dX0_byFollow_17 (by decide) (fun c10 => ?_) (fun c10 => ?_)
    · replace hf := ot hf c10
      exact hJ30  hf ls (lv_sub hl [2, 3, 4] rfl)
    · replace hf := oe hf c10
      refine lv_aload_n hx hb dX0_byFollow_20 rfl (lv_at hl 1 rfl) ?_
      refine p_get (D := (dC, dI)) (ci := 0) (v := .ref q_wrote) (C := RX0) (T := TX0) (N := 8) 5 fX0_5 hx hb hG inlX0 hown hK.1 hP 0 rfl rfl (by decide) (hG _ mw_75) rfl dX0_byFollow_21 ?_
      refine lv_iload hx hb dX0_byFollow_24 (lv_at hl 0 rfl) ?_
      obtain ⟨g11, hf⟩ := og hf
      refine va_iald hx hb hK.1 hP 1 0 rfl rfl g11 dX0_byFollow_26 ?_
      refine lv_goto (tgt := 31) hx hb dX0_byFollow_27 (by decide) ?_
      exact hJ31 (vwrote (vp1_digits x2.toNatClampNeg).toNatClampNeg) hf ls (lv_sub hl [2, 3, 4] rfl)
def f_X0_byLead_L72 (x7 : Int32) (x4 : Int32) (x5 : Int32) : Option ((Int32 × Int32 × Int32) ⊕ (Int32)) := some (.inl (x4, x5, (x7 + (1 : Int32))))
def f_X0_byLead_B14 (vcounts : Nat → Int32) (vp1_sizes : Nat → Int32) (vp1_orders : Nat → Int32) (x2 : Int32) (x3 : Int32) (x6 : Int32) (x4 : Int32) (x5 : Int32) (x7 : Int32) : Option ((Int32 × Int32 × Int32) ⊕ (Int32)) := (if x2 < 0 ∨ 6 ≤ x2.toNatClampNeg then none else (if (vp1_sizes x2.toNatClampNeg) ≤ x7 then some (.inr x4) else (if (x6 + x7) < 0 ∨ 30 ≤ (x6 + x7).toNatClampNeg then none else (if ((x3 >>> ((vp1_orders (x6 + x7).toNatClampNeg) &&& 31)) &&& (1 : Int32)) = (1 : Int32) then (if (vp1_orders (x6 + x7).toNatClampNeg) < 0 ∨ 5 ≤ (vp1_orders (x6 + x7).toNatClampNeg).toNatClampNeg then none else (if (vcounts (vp1_orders (x6 + x7).toNatClampNeg).toNatClampNeg) ≤ x5 then (f_X0_byLead_L72 x7 x4 x5) else (f_X0_byLead_L72 x7 (vp1_orders (x6 + x7).toNatClampNeg) (vcounts (vp1_orders (x6 + x7).toNatClampNeg).toNatClampNeg)))) else (f_X0_byLead_L72 x7 x4 x5)))))
def f_X0_byLead (N : Nat) (vcounts : Nat → Int32) (vp1_sizes : Nat → Int32) (vp1_orders : Nat → Int32) (x2 : Int32) (x3 : Int32) : Option (Int32) := ((lp (fun s => f_X0_byLead_B14 vcounts vp1_sizes vp1_orders x2 x3 (x2 * (5 : Int32)) s.1 s.2.1 s.2.2) N ((-1 : Int32), (-1 : Int32), (0 : Int32))).bind (fun e7 => some e7))
def w_X0_byLead (cI cJ cB : ClassId) (q_this q_p1 q_wrote q_writes q_counts q_p1_members q_p1_moves q_p1_digits q_p1_sizes q_p1_orders q_p1_above q_p1_below q_p1_struck q_p1_lots : Nat) (vballots : Int32) (vused : Int32) (vchosen : Int32) (vwaiter : Int32) (vwait : Int32) (vcounts : Nat → Int32) (vp1_blocks : Int32) (vp1_sizes : Nat → Int32) (vp1_orders : Nat → Int32) : va_W := [(q_this, .inr (0, [.int vballots, .int vused, .int vchosen, .int vwaiter, .int vwait, .ref q_wrote, .ref q_writes, .ref q_counts])), (q_counts, .inl (cI, 5, .inl vcounts)), (q_p1, .inr (5, [.int vp1_blocks, .ref q_p1_members, .ref q_p1_moves, .ref q_p1_digits, .ref q_p1_sizes, .ref q_p1_orders, .ref q_p1_above, .ref q_p1_below, .ref q_p1_struck, .ref q_p1_lots])), (q_p1_sizes, .inl (cI, 6, .inl vp1_sizes)), (q_p1_orders, .inl (cI, 30, .inl vp1_orders))]
set_option maxHeartbeats 4000000 in
set_option maxRecDepth 100000 in
theorem c_X0_byLead (l : Launch) (dC : Nat → ClassId) (dI : Nat → Nat → Nat) (cI cJ cB : ClassId) (q_this q_p1 q_wrote q_writes q_counts q_p1_members q_p1_moves q_p1_digits q_p1_sizes q_p1_orders q_p1_above q_p1_below q_p1_struck q_p1_lots : Nat) (vballots : Int32) (vused : Int32) (vchosen : Int32) (vwaiter : Int32) (vwait : Int32) (vcounts : Nat → Int32) (vp1_blocks : Int32) (vp1_sizes : Nat → Int32) (vp1_orders : Nat → Int32) (x2 : Int32) (x3 : Int32) {N : Nat} {r : Int32} (hf : f_X0_byLead N vcounts vp1_sizes vp1_orders x2 x3 = some r) : Met l yX0_byLead (Cond.code yX0_byLead cX0_byLead 9 (some .int) :: wsL_law) (kR 0) (va_Pc [.ref q_this, .ref q_p1, .int x2, .int x3] (pR (dC, dI) cI cJ cB (w_X0_byLead cI cJ cB q_this q_p1 q_wrote q_writes q_counts q_p1_members q_p1_moves q_p1_digits q_p1_sizes q_p1_orders q_p1_above q_p1_below q_p1_struck q_p1_lots vballots vused vchosen vwaiter vwait vcounts vp1_blocks vp1_sizes vp1_orders))) (qRi r) 0 0 (fun _ => False) := by
  refine k_ro (cc := cX0_byLead) (n := 9) (ret := (some .int)) (by decide) (Nat.le_of_ble_eq_true rfl) ?_
  intro p e s m args below meth c ls hx hb hr hml hts hown hlocks hK hP hl
  have hP : va_P (dC, dI) classes [(q_this, .inr (0, [.int vballots, .int vused, .int vchosen, .int vwaiter, .int vwait, .ref q_wrote, .ref q_writes, .ref q_counts])), (q_counts, .inl (cI, 5, .inl vcounts)), (q_p1, .inr (5, [.int vp1_blocks, .ref q_p1_members, .ref q_p1_moves, .ref q_p1_digits, .ref q_p1_sizes, .ref q_p1_orders, .ref q_p1_above, .ref q_p1_below, .ref q_p1_struck, .ref q_p1_lots])), (q_p1_sizes, .inl (cI, 6, .inl vp1_sizes)), (q_p1_orders, .inl (cI, 30, .inl vp1_orders))] s.heap := hP
  have hG : ∀ w ∈ wsL_law, w.before args s = true := fun w h => hts w (List.mem_cons_of_mem _ h)
  have hown : s.vm.findClass RX0 = some m.cls := hown
  have hl : lv_has ls 9 [(0, .ref q_this), (1, .ref q_p1), (2, .int x2), (3, .int x3)] := hl
  unfold f_X0_byLead at hf
  have hL14 : ∀ (n : Nat) (x6 : Int32) (x4 : Int32) (x5 : Int32) (x7 : Int32) (res14 : Int32), lp (fun s => f_X0_byLead_B14 vcounts vp1_sizes vp1_orders x2 x3 x6 s.1 s.2.1 s.2.2) n (x4, x5, x7) = some res14 → ∀ (ls : Array Slot), lv_has ls 9 [(0, .ref q_this), (1, .ref q_p1), (2, .int x2), (3, .int x3), (4, .int x4), (5, .int x5), (6, .int x6), (7, .int x7)] → (∀ q9 : Int32, res14 = q9 → q9 = r) → W p l e (kR 0) s m args below meth c s.heap [] 0 0 (MQ below (qRi r) args s 0 0 (fun _ => False)) (F0 m 14 ls []) := by
    intro n
    induction n with
    | zero => intro x6 x4 x5 x7 res14 h9; exact (lp_zero h9).elim
    | succ n ih =>
      intro x6 x4 x5 x7 res14 h9 ls hl KR
      obtain ⟨o14, hf, hnext, hexit⟩ := lp_succ h9
      have hf : f_X0_byLead_B14 vcounts vp1_sizes vp1_orders x2 x3 x6 x4 x5 x7 = some o14 := hf
      unfold f_X0_byLead_B14 at hf
      have hJ72 : ∀ (x4 : Int32) (x5 : Int32), f_X0_byLead_L72 x7 x4 x5 = some o14 → ∀ (ls : Array Slot), lv_has ls 9 [(0, .ref q_this), (1, .ref q_p1), (2, .int x2), (3, .int x3), (4, .int x4), (5, .int x5), (6, .int x6), (7, .int x7)] → W p l e (kR 0) s m args below meth c s.heap [] 0 0 (MQ below (qRi r) args s 0 0 (fun _ => False)) (F0 m 72 ls []) := by
        intro x4 x5 hf ls hl
        unfold f_X0_byLead_L72 at hf
        refine lv_iinc (v := (x7 + (1 : Int32))) (lv' := [(7, .int (x7 + (1 : Int32))), (0, .ref q_this), (1, .ref q_p1), (2, .int x2), (3, .int x3), (4, .int x4), (5, .int x5), (6, .int x6)]) hx hb dX0_byLead_72 hl (k := 7) rfl rfl (by decide) rfl (fun ls hl => ?_)
        refine lv_goto (tgt := 14) hx hb dX0_byLead_75 (by decide) ?_
        exact ih x6 x4 x5 (x7 + (1 : Int32)) res14 (hnext _ (osi hf).symm) ls (lv_sub hl [1, 2, 3, 4, 5, 6, 7, 0] rfl) KR
      refine lv_iload hx hb dX0_byLead_14 (lv_at hl 7 rfl) ?_
      refine lv_aload_n hx hb dX0_byLead_16 rfl (lv_at hl 1 rfl) ?_
      refine p_get (D := (dC, dI)) (ci := 5) (v := .ref q_p1_sizes) (C := RX5) (T := TX5) (N := 10) 4 fX5_4 hx hb hG inlX5 hown hK.1 hP 2 rfl rfl (by decide) (hG _ mw_503) rfl dX0_byLead_17 ?_
      refine lv_iload_n hx hb dX0_byLead_20 rfl (lv_at hl 2 rfl) ?_
      obtain ⟨g1, hf⟩ := og hf
      refine va_iald hx hb hK.1 hP 3 0 rfl rfl g1 dX0_byLead_21 ?_
      refine lv_icmp_ge (tgt := 78) hx hb dX0_byLead_22 (by decide) (fun c2 => ?_) (fun c2 => ?_)
      · replace hf := ot hf c2
        refine lv_iload hx hb dX0_byLead_78 (lv_at hl 4 rfl) ?_
        have hf := KR _ (hexit _ (osi hf).symm).symm
        exact x_iR hx hb hr hlocks hf dX0_byLead_80
      · replace hf := oe hf c2
        refine lv_aload_n hx hb dX0_byLead_25 rfl (lv_at hl 1 rfl) ?_
        refine p_get (D := (dC, dI)) (ci := 5) (v := .ref q_p1_orders) (C := RX5) (T := TX5) (N := 10) 5 fX5_5 hx hb hG inlX5 hown hK.1 hP 2 rfl rfl (by decide) (hG _ mw_504) rfl dX0_byLead_26 ?_
        refine lv_iload hx hb dX0_byLead_29 (lv_at hl 6 rfl) ?_
        refine lv_iload hx hb dX0_byLead_31 (lv_at hl 7 rfl) ?_
        refine lv_iadd hx hb dX0_byLead_33 ?_
        obtain ⟨g3, hf⟩ := og hf
        refine va_iald hx hb hK.1 hP 4 0 rfl rfl g3 dX0_byLead_34 ?_
        refine lv_istore (lv' := [(8, .int (vp1_orders (x6 + x7).toNatClampNeg)), (0, .ref q_this), (1, .ref q_p1), (2, .int x2), (3, .int x3), (4, .int x4), (5, .int x5), (6, .int x6), (7, .int x7)]) hx hb dX0_byLead_35 hl (by decide) rfl (fun ls hl => ?_)
        refine lv_iload_n hx hb dX0_byLead_37 rfl (lv_at hl 4 rfl) ?_
        refine lv_iload hx hb dX0_byLead_38 (lv_at hl 0 rfl) ?_
        refine lv_ishr hx hb dX0_byLead_40 ?_
        refine lv_iconst (v := (1 : Int32)) hx hb dX0_byLead_41 (by decide) ?_
        refine lv_iand hx hb dX0_byLead_42 ?_
        refine lv_iconst (v := (1 : Int32)) hx hb dX0_byLead_43 (by decide) ?_
        refine lv_icmp_ne (tgt := 72) hx hb dX0_byLead_44 (by decide) (fun c4 => ?_) (fun c4 => ?_)
        · replace hf := oe hf c4
          exact hJ72 x4 x5 hf ls (lv_sub hl [1, 2, 3, 4, 5, 6, 7, 8] rfl)
        · replace hf := ot hf c4
          refine lv_aload_n hx hb dX0_byLead_47 rfl (lv_at hl 1 rfl) ?_
          refine p_get (D := (dC, dI)) (ci := 0) (v := .ref q_counts) (C := RX0) (T := TX0) (N := 8) 7 fX0_7 hx hb hG inlX0 hown hK.1 hP 0 rfl rfl (by decide) (hG _ mw_77) rfl dX0_byLead_48 ?_
          refine lv_iload hx hb dX0_byLead_51 (lv_at hl 0 rfl) ?_
          obtain ⟨g5, hf⟩ := og hf
          refine va_iald hx hb hK.1 hP 1 0 rfl rfl g5 dX0_byLead_53 ?_
          refine lv_iload hx hb dX0_byLead_54 (lv_at hl 6 rfl) ?_
          refine lv_icmp_le (tgt := 72) hx hb dX0_byLead_56 (by decide) (fun c6 => ?_) (fun c6 => ?_)
          · replace hf := ot hf c6
            exact hJ72 x4 x5 hf ls (lv_sub hl [1, 2, 3, 4, 5, 6, 7, 8] rfl)
          · replace hf := oe hf c6
            refine lv_iload hx hb dX0_byLead_59 (lv_at hl 0 rfl) ?_
            refine lv_istore (lv' := [(4, .int (vp1_orders (x6 + x7).toNatClampNeg)), (8, .int (vp1_orders (x6 + x7).toNatClampNeg)), (0, .ref q_this), (1, .ref q_p1), (2, .int x2), (3, .int x3), (5, .int x5), (6, .int x6), (7, .int x7)]) hx hb dX0_byLead_61 hl (by decide) rfl (fun ls hl => ?_)
            refine lv_aload_n hx hb dX0_byLead_63 rfl (lv_at hl 2 rfl) ?_
            refine p_get (D := (dC, dI)) (ci := 0) (v := .ref q_counts) (C := RX0) (T := TX0) (N := 8) 7 fX0_7 hx hb hG inlX0 hown hK.1 hP 0 rfl rfl (by decide) (hG _ mw_77) rfl dX0_byLead_64 ?_
            refine lv_iload hx hb dX0_byLead_67 (lv_at hl 1 rfl) ?_
            refine va_iald hx hb hK.1 hP 1 0 rfl rfl g5 dX0_byLead_69 ?_
            refine lv_istore (lv' := [(5, .int (vcounts (vp1_orders (x6 + x7).toNatClampNeg).toNatClampNeg)), (4, .int (vp1_orders (x6 + x7).toNatClampNeg)), (8, .int (vp1_orders (x6 + x7).toNatClampNeg)), (0, .ref q_this), (1, .ref q_p1), (2, .int x2), (3, .int x3), (6, .int x6), (7, .int x7)]) hx hb dX0_byLead_70 hl (by decide) rfl (fun ls hl => ?_)
            exact hJ72 (vp1_orders (x6 + x7).toNatClampNeg) (vcounts (vp1_orders (x6 + x7).toNatClampNeg).toNatClampNeg) hf ls (lv_sub hl [3, 4, 5, 6, 1, 0, 7, 8] rfl)
  refine lv_iconst (v := (-1 : Int32)) hx hb dX0_byLead_0 (by decide) ?_
  refine lv_istore (lv' := [(4, .int (-1 : Int32)), (0, .ref q_this), (1, .ref q_p1), (2, .int x2), (3, .int x3)]) hx hb dX0_byLead_1 hl (by decide) rfl (fun ls hl => ?_)
  refine lv_iconst (v := (-1 : Int32)) hx hb dX0_byLead_3 (by decide) ?_
  refine lv_istore (lv' := [(5, .int (-1 : Int32)), (4, .int (-1 : Int32)), (0, .ref q_this), (1, .ref q_p1), (2, .int x2), (3, .int x3)]) hx hb dX0_byLead_4 hl (by decide) rfl (fun ls hl => ?_)
  refine lv_iload_n hx hb dX0_byLead_6 rfl (lv_at hl 4 rfl) ?_
  refine lv_iconst (v := (5 : Int32)) hx hb dX0_byLead_7 (by decide) ?_
  refine lv_imul hx hb dX0_byLead_8 ?_
  refine lv_istore (lv' := [(6, .int (x2 * (5 : Int32))), (5, .int (-1 : Int32)), (4, .int (-1 : Int32)), (0, .ref q_this), (1, .ref q_p1), (2, .int x2), (3, .int x3)]) hx hb dX0_byLead_9 hl (by decide) rfl (fun ls hl => ?_)
  refine lv_iconst (v := (0 : Int32)) hx hb dX0_byLead_11 (by decide) ?_
  refine lv_istore (lv' := [(7, .int (0 : Int32)), (6, .int (x2 * (5 : Int32))), (5, .int (-1 : Int32)), (4, .int (-1 : Int32)), (0, .ref q_this), (1, .ref q_p1), (2, .int x2), (3, .int x3)]) hx hb dX0_byLead_12 hl (by decide) rfl (fun ls hl => ?_)
  obtain ⟨e7, hp7, hf⟩ := ob hf
  exact hL14 N (x2 * (5 : Int32)) (-1 : Int32) (-1 : Int32) (0 : Int32) e7 hp7 ls (lv_sub hl [4, 5, 6, 7, 3, 2, 1, 0] rfl) (fun q9 h9 => by subst h9; exact osi hf)
def f_X0_byNext_L77 (N : Nat) (vp1_sizes : Nat → Int32) (vp1_orders : Nat → Int32) (x2 : Int32) (x3 : Int32) (x5 : Int32) (x6 : Int32) (z0 : Int32) : Option (Int32) := (if z0 = (-1 : Int32) then (if x6 = 0 then ((f_X5_firstAlive N vp1_sizes vp1_orders x2 (0 : Int32) x3).bind (fun u3 => some u3)) else some x5) else some z0)
def f_X0_byNext_L48 (N : Nat) (vp1_sizes : Nat → Int32) (vp1_orders : Nat → Int32) (x2 : Int32) (x3 : Int32) (x5 : Int32) (x6 : Int32) : Option (Int32) := ((f_X5_place N vp1_sizes vp1_orders x2 x5).bind (fun u4 => (if u4 = (-1 : Int32) then (f_X0_byNext_L77 N vp1_sizes vp1_orders x2 x3 x5 x6 (-1 : Int32)) else ((f_X5_firstAlive N vp1_sizes vp1_orders x2 (u4 + (1 : Int32)) x3).bind (fun u6 => (f_X0_byNext_L77 N vp1_sizes vp1_orders x2 x3 x5 x6 u6))))))
def f_X0_byNext_L31 (N : Nat) (vp1_sizes : Nat → Int32) (vp1_orders : Nat → Int32) (x2 : Int32) (x3 : Int32) (x4 : Int32) (x5 : Int32) (z0 : Int32) : Option (Int32) := (if z0 = 0 then (f_X0_byNext_L48 N vp1_sizes vp1_orders x2 x3 x5 z0) else (if x5 = x4 then (f_X0_byNext_L48 N vp1_sizes vp1_orders x2 x3 x5 z0) else some x5))
def f_X0_byNext_L30 (N : Nat) (vp1_sizes : Nat → Int32) (vp1_orders : Nat → Int32) (x2 : Int32) (x3 : Int32) (x4 : Int32) (x5 : Int32) : Option (Int32) := (f_X0_byNext_L31 N vp1_sizes vp1_orders x2 x3 x4 x5 (0 : Int32))
def f_X0_byNext (N : Nat) (vwrote : Nat → Int32) (vp1_sizes : Nat → Int32) (vp1_orders : Nat → Int32) (x2 : Int32) (x3 : Int32) (x4 : Int32) : Option (Int32) := (if x2 < 0 ∨ 6 ≤ x2.toNatClampNeg then none else ((f_X6_isName (vwrote x2.toNatClampNeg)).bind (fun u10 => (if u10 = 0 then (f_X0_byNext_L30 N vp1_sizes vp1_orders x2 x3 x4 (vwrote x2.toNatClampNeg)) else (if ((x3 >>> ((vwrote x2.toNatClampNeg) &&& 31)) &&& (1 : Int32)) = (1 : Int32) then (f_X0_byNext_L31 N vp1_sizes vp1_orders x2 x3 x4 (vwrote x2.toNatClampNeg) (1 : Int32)) else (f_X0_byNext_L30 N vp1_sizes vp1_orders x2 x3 x4 (vwrote x2.toNatClampNeg)))))))
def w_X0_byNext (cI cJ cB : ClassId) (q_this q_p1 q_wrote q_writes q_counts q_p1_members q_p1_moves q_p1_digits q_p1_sizes q_p1_orders q_p1_above q_p1_below q_p1_struck q_p1_lots : Nat) (vballots : Int32) (vused : Int32) (vchosen : Int32) (vwaiter : Int32) (vwait : Int32) (vwrote : Nat → Int32) (vp1_blocks : Int32) (vp1_sizes : Nat → Int32) (vp1_orders : Nat → Int32) : va_W := [(q_this, .inr (0, [.int vballots, .int vused, .int vchosen, .int vwaiter, .int vwait, .ref q_wrote, .ref q_writes, .ref q_counts])), (q_wrote, .inl (cI, 6, .inl vwrote)), (q_p1, .inr (5, [.int vp1_blocks, .ref q_p1_members, .ref q_p1_moves, .ref q_p1_digits, .ref q_p1_sizes, .ref q_p1_orders, .ref q_p1_above, .ref q_p1_below, .ref q_p1_struck, .ref q_p1_lots])), (q_p1_sizes, .inl (cI, 6, .inl vp1_sizes)), (q_p1_orders, .inl (cI, 30, .inl vp1_orders))]
set_option maxHeartbeats 4000000 in
set_option maxRecDepth 100000 in
theorem c_X0_byNext (l : Launch) (dC : Nat → ClassId) (dI : Nat → Nat → Nat) (cI cJ cB : ClassId) (q_this q_p1 q_wrote q_writes q_counts q_p1_members q_p1_moves q_p1_digits q_p1_sizes q_p1_orders q_p1_above q_p1_below q_p1_struck q_p1_lots : Nat) (vballots : Int32) (vused : Int32) (vchosen : Int32) (vwaiter : Int32) (vwait : Int32) (vwrote : Nat → Int32) (vp1_blocks : Int32) (vp1_sizes : Nat → Int32) (vp1_orders : Nat → Int32) (x2 : Int32) (x3 : Int32) (x4 : Int32) {N : Nat} {r : Int32} (hf : f_X0_byNext N vwrote vp1_sizes vp1_orders x2 x3 x4 = some r) : Met l yX0_byNext (Cond.code yX0_byNext cX0_byNext 9 (some .int) :: wsL_law) (kR 1) (va_Pc [.ref q_this, .ref q_p1, .int x2, .int x3, .int x4] (pR (dC, dI) cI cJ cB (w_X0_byNext cI cJ cB q_this q_p1 q_wrote q_writes q_counts q_p1_members q_p1_moves q_p1_digits q_p1_sizes q_p1_orders q_p1_above q_p1_below q_p1_struck q_p1_lots vballots vused vchosen vwaiter vwait vwrote vp1_blocks vp1_sizes vp1_orders))) (qRi r) 0 0 (fun _ => False) := by
  refine k_ro (cc := cX0_byNext) (n := 9) (ret := (some .int)) (by decide) (Nat.le_of_ble_eq_true rfl) ?_
  intro p e s m args below meth c ls hx hb hr hml hts hown hlocks hK hP hl
  have hP : va_P (dC, dI) classes [(q_this, .inr (0, [.int vballots, .int vused, .int vchosen, .int vwaiter, .int vwait, .ref q_wrote, .ref q_writes, .ref q_counts])), (q_wrote, .inl (cI, 6, .inl vwrote)), (q_p1, .inr (5, [.int vp1_blocks, .ref q_p1_members, .ref q_p1_moves, .ref q_p1_digits, .ref q_p1_sizes, .ref q_p1_orders, .ref q_p1_above, .ref q_p1_below, .ref q_p1_struck, .ref q_p1_lots])), (q_p1_sizes, .inl (cI, 6, .inl vp1_sizes)), (q_p1_orders, .inl (cI, 30, .inl vp1_orders))] s.heap := hP
  have hG : ∀ w ∈ wsL_law, w.before args s = true := fun w h => hts w (List.mem_cons_of_mem _ h)
  have hown : s.vm.findClass RX0 = some m.cls := hown
  have hl : lv_has ls 9 [(0, .ref q_this), (1, .ref q_p1), (2, .int x2), (3, .int x3), (4, .int x4)] := hl
  unfold f_X0_byNext at hf
  have hJ77 : ∀ (x5 : Int32) (x6 : Int32) (z0 : Int32), f_X0_byNext_L77 N vp1_sizes vp1_orders x2 x3 x5 x6 z0 = some r → ∀ (ls : Array Slot), lv_has ls 9 [(1, .ref q_p1), (2, .int x2), (3, .int x3), (5, .int x5), (6, .int x6)] → W p l e (kR 1) s m args below meth c s.heap [] 0 0 (MQ below (qRi r) args s 0 0 (fun _ => False)) (F0 m 77 ls [.int z0]) := by
    intro x5 x6 z0 hf ls hl
    unfold f_X0_byNext_L77 at hf
    refine lv_istore (lv' := [(8, .int z0), (1, .ref q_p1), (2, .int x2), (3, .int x3), (5, .int x5), (6, .int x6)]) hx hb dX0_byNext_77 hl (by decide) rfl (fun ls hl => ?_)
    refine lv_iload hx hb dX0_byNext_79 (lv_at hl 0 rfl) ?_
    refine lv_iconst (v := (-1 : Int32)) hx hb dX0_byNext_81 (by decide) ?_
    refine lv_icmp_eq (tgt := 88) hx hb dX0_byNext_82 (by decide) (fun c1 => ?_) (fun c1 => ?_)
    · replace hf := ot hf c1
      refine lv_iload hx hb dX0_byNext_88 (lv_at hl 5 rfl) ?_
      refine lv_if_eq (tgt := 98) hx hb dX0_byNext_90 (by decide) (fun c2 => ?_) (fun c2 => ?_)
      · replace hf := ot hf c2
        refine lv_aload_n hx hb dX0_byNext_98 rfl (lv_at hl 1 rfl) ?_
        refine lv_iload_n hx hb dX0_byNext_99 rfl (lv_at hl 2 rfl) ?_
        refine lv_iconst (v := (0 : Int32)) hx hb dX0_byNext_100 (by decide) ?_
        refine lv_iload_n hx hb dX0_byNext_101 rfl (lv_at hl 3 rfl) ?_
        obtain ⟨u3, hu3, hf⟩ := ob hf
        refine k_Vi (As := [.int x2, .int (0 : Int32), .int x3]) (rest := []) ⟨hx, hb, hml, hown, hts⟩ hK hP [2, 3, 4] rfl (c_X5_firstAlive l dC dI cI cJ cB q_p1 q_p1_members q_p1_moves q_p1_digits q_p1_sizes q_p1_orders q_p1_above q_p1_below q_p1_struck q_p1_lots vp1_blocks vp1_sizes vp1_orders x2 (0 : Int32) x3 hu3) (gl_X0_107 hts ⟨(Nat.le_of_ble_eq_true rfl), (Nat.le_of_ble_eq_true rfl)⟩) 2 5 rfl rfl rfl rfl hl.1 rfl (Nat.le_of_ble_eq_true rfl) dX0_byNext_102 ⟨Nat.zero_le _, Nat.zero_le _⟩ ?_
        have hf := osi hf
        exact x_iR hx hb hr hlocks hf dX0_byNext_105
      · replace hf := oe hf c2
        refine lv_iload hx hb dX0_byNext_93 (lv_at hl 4 rfl) ?_
        refine lv_goto (tgt := 105) hx hb dX0_byNext_95 (by decide) ?_
        have hf := osi hf
        exact x_iR hx hb hr hlocks hf dX0_byNext_105
    · replace hf := oe hf c1
      refine lv_iload hx hb dX0_byNext_85 (lv_at hl 0 rfl) ?_
      have hf := osi hf
      exact x_iR hx hb hr hlocks hf dX0_byNext_87
  have hJ48 : ∀ (x5 : Int32) (x6 : Int32), f_X0_byNext_L48 N vp1_sizes vp1_orders x2 x3 x5 x6 = some r → ∀ (ls : Array Slot), lv_has ls 9 [(1, .ref q_p1), (2, .int x2), (3, .int x3), (5, .int x5), (6, .int x6)] → W p l e (kR 1) s m args below meth c s.heap [] 0 0 (MQ below (qRi r) args s 0 0 (fun _ => False)) (F0 m 48 ls []) := by
    intro x5 x6 hf ls hl
    unfold f_X0_byNext_L48 at hf
    refine lv_aload_n hx hb dX0_byNext_48 rfl (lv_at hl 0 rfl) ?_
    refine lv_iload_n hx hb dX0_byNext_49 rfl (lv_at hl 1 rfl) ?_
    refine lv_iload hx hb dX0_byNext_50 (lv_at hl 3 rfl) ?_
    obtain ⟨u4, hu4, hf⟩ := ob hf
    refine k_Vi (As := [.int x2, .int x5]) (rest := []) ⟨hx, hb, hml, hown, hts⟩ hK hP [2, 3, 4] rfl (c_X5_place l dC dI cI cJ cB q_p1 q_p1_members q_p1_moves q_p1_digits q_p1_sizes q_p1_orders q_p1_above q_p1_below q_p1_struck q_p1_lots vp1_blocks vp1_sizes vp1_orders x2 x5 hu4) (gl_X0_130 hts ⟨(Nat.le_of_ble_eq_true rfl), (Nat.le_of_ble_eq_true rfl)⟩) 2 5 rfl rfl rfl rfl hl.1 rfl (Nat.le_of_ble_eq_true rfl) dX0_byNext_52 ⟨Nat.zero_le _, Nat.zero_le _⟩ ?_
    refine lv_istore (lv' := [(7, .int u4), (1, .ref q_p1), (2, .int x2), (3, .int x3), (5, .int x5), (6, .int x6)]) hx hb dX0_byNext_55 hl (by decide) rfl (fun ls hl => ?_)
    refine lv_iload hx hb dX0_byNext_57 (lv_at hl 0 rfl) ?_
    refine lv_iconst (v := (-1 : Int32)) hx hb dX0_byNext_59 (by decide) ?_
    refine lv_icmp_ne (tgt := 67) hx hb dX0_byNext_60 (by decide) (fun c5 => ?_) (fun c5 => ?_)
    · replace hf := oe hf c5
      refine lv_aload_n hx hb dX0_byNext_67 rfl (lv_at hl 1 rfl) ?_
      refine lv_iload_n hx hb dX0_byNext_68 rfl (lv_at hl 2 rfl) ?_
      refine lv_iload hx hb dX0_byNext_69 (lv_at hl 0 rfl) ?_
      refine lv_iconst (v := (1 : Int32)) hx hb dX0_byNext_71 (by decide) ?_
      refine lv_iadd hx hb dX0_byNext_72 ?_
      refine lv_iload_n hx hb dX0_byNext_73 rfl (lv_at hl 3 rfl) ?_
      obtain ⟨u6, hu6, hf⟩ := ob hf
      refine k_Vi (As := [.int x2, .int (u4 + (1 : Int32)), .int x3]) (rest := []) ⟨hx, hb, hml, hown, hts⟩ hK hP [2, 3, 4] rfl (c_X5_firstAlive l dC dI cI cJ cB q_p1 q_p1_members q_p1_moves q_p1_digits q_p1_sizes q_p1_orders q_p1_above q_p1_below q_p1_struck q_p1_lots vp1_blocks vp1_sizes vp1_orders x2 (u4 + (1 : Int32)) x3 hu6) (gl_X0_107 hts ⟨(Nat.le_of_ble_eq_true rfl), (Nat.le_of_ble_eq_true rfl)⟩) 2 5 rfl rfl rfl rfl hl.1 rfl (Nat.le_of_ble_eq_true rfl) dX0_byNext_74 ⟨Nat.zero_le _, Nat.zero_le _⟩ ?_
      exact hJ77 x5 x6 u6 hf ls (lv_sub hl [1, 2, 3, 4, 5] rfl)
    · replace hf := ot hf c5
      refine lv_iconst (v := (-1 : Int32)) hx hb dX0_byNext_63 (by decide) ?_
      refine lv_goto (tgt := 77) hx hb dX0_byNext_64 (by decide) ?_
      exact hJ77 x5 x6 (-1 : Int32) hf ls (lv_sub hl [1, 2, 3, 4, 5] rfl)
  have hJ31 : ∀ (x5 : Int32) (z0 : Int32), f_X0_byNext_L31 N vp1_sizes vp1_orders x2 x3 x4 x5 z0 = some r → ∀ (ls : Array Slot), lv_has ls 9 [(1, .ref q_p1), (2, .int x2), (3, .int x3), (4, .int x4), (5, .int x5)] → W p l e (kR 1) s m args below meth c s.heap [] 0 0 (MQ below (qRi r) args s 0 0 (fun _ => False)) (F0 m 31 ls [.int z0]) := by
    intro x5 z0 hf ls hl
    unfold f_X0_byNext_L31 at hf
    refine lv_istore (lv' := [(6, .int z0), (1, .ref q_p1), (2, .int x2), (3, .int x3), (4, .int x4), (5, .int x5)]) hx hb dX0_byNext_31 hl (by decide) rfl (fun ls hl => ?_)
    refine lv_iload hx hb dX0_byNext_33 (lv_at hl 0 rfl) ?_
    refine lv_if_eq (tgt := 48) hx hb dX0_byNext_35 (by decide) (fun c7 => ?_) (fun c7 => ?_)
    · replace hf := ot hf c7
      exact hJ48 x5 z0 hf ls (lv_sub hl [1, 2, 3, 5, 0] rfl)
    · replace hf := oe hf c7
      refine lv_iload hx hb dX0_byNext_38 (lv_at hl 5 rfl) ?_
      refine lv_iload hx hb dX0_byNext_40 (lv_at hl 4 rfl) ?_
      refine lv_icmp_eq (tgt := 48) hx hb dX0_byNext_42 (by decide) (fun c8 => ?_) (fun c8 => ?_)
      · replace hf := ot hf c8
        exact hJ48 x5 z0 hf ls (lv_sub hl [1, 2, 3, 5, 0] rfl)
      · replace hf := oe hf c8
        refine lv_iload hx hb dX0_byNext_45 (lv_at hl 5 rfl) ?_
        have hf := osi hf
        exact x_iR hx hb hr hlocks hf dX0_byNext_47
  have hJ30 : ∀ (x5 : Int32), f_X0_byNext_L30 N vp1_sizes vp1_orders x2 x3 x4 x5 = some r → ∀ (ls : Array Slot), lv_has ls 9 [(1, .ref q_p1), (2, .int x2), (3, .int x3), (4, .int x4), (5, .int x5)] → W p l e (kR 1) s m args below meth c s.heap [] 0 0 (MQ below (qRi r) args s 0 0 (fun _ => False)) (F0 m 30 ls []) := by
    intro x5 hf ls hl
    unfold f_X0_byNext_L30 at hf
    refine lv_iconst (v := (0 : Int32)) hx hb dX0_byNext_30 (by decide) ?_
    exact hJ31 x5 (0 : Int32) hf ls (lv_sub hl [0, 1, 2, 3, 4] rfl)
  refine lv_aload_n hx hb dX0_byNext_0 rfl (lv_at hl 0 rfl) ?_
  refine p_get (D := (dC, dI)) (ci := 0) (v := .ref q_wrote) (C := RX0) (T := TX0) (N := 8) 5 fX0_5 hx hb hG inlX0 hown hK.1 hP 0 rfl rfl (by decide) (hG _ mw_75) rfl dX0_byNext_1 ?_
  refine lv_iload_n hx hb dX0_byNext_4 rfl (lv_at hl 2 rfl) ?_
  obtain ⟨g9, hf⟩ := og hf
  refine va_iald hx hb hK.1 hP 1 0 rfl rfl g9 dX0_byNext_5 ?_
  refine lv_istore (lv' := [(5, .int (vwrote x2.toNatClampNeg)), (0, .ref q_this), (1, .ref q_p1), (2, .int x2), (3, .int x3), (4, .int x4)]) hx hb dX0_byNext_6 hl (by decide) rfl (fun ls hl => ?_)
  refine lv_iload hx hb dX0_byNext_8 (lv_at hl 0 rfl) ?_
  obtain ⟨u10, hu10, hf⟩ := ob hf
  refine k_SNi (As := [.int (vwrote x2.toNatClampNeg)]) (rest := []) ⟨hx, hb, hml, hown, hts⟩ hK hP [] rfl (c_X6_isName l dC dI cI cJ cB (vwrote x2.toNatClampNeg) hu10) (gl_X0_126 hts hK.2 ⟨(Nat.le_of_ble_eq_true rfl), (Nat.le_of_ble_eq_true rfl)⟩) rfl hl.1 rfl (Nat.le_of_ble_eq_true rfl) dX0_byNext_10 ⟨Nat.zero_le _, Nat.zero_le _⟩ ?_
  refine lv_if_eq (tgt := 30) hx hb dX0_byNext_13 (by decide) (fun c11 => ?_) (fun c11 => ?_)
  · replace hf := ot hf c11
    exact hJ30 (vwrote x2.toNatClampNeg) hf ls (lv_sub hl [2, 3, 4, 5, 0] rfl)
  · replace hf := oe hf c11
    refine lv_iload_n hx hb dX0_byNext_16 rfl (lv_at hl 4 rfl) ?_
    refine lv_iload hx hb dX0_byNext_17 (lv_at hl 0 rfl) ?_
    refine lv_ishr hx hb dX0_byNext_19 ?_
    refine lv_iconst (v := (1 : Int32)) hx hb dX0_byNext_20 (by decide) ?_
    refine lv_iand hx hb dX0_byNext_21 ?_
    refine lv_iconst (v := (1 : Int32)) hx hb dX0_byNext_22 (by decide) ?_
    refine lv_icmp_ne (tgt := 30) hx hb dX0_byNext_23 (by decide) (fun c12 => ?_) (fun c12 => ?_)
    · replace hf := oe hf c12
      exact hJ30 (vwrote x2.toNatClampNeg) hf ls (lv_sub hl [2, 3, 4, 5, 0] rfl)
    · replace hf := ot hf c12
      refine lv_iconst (v := (1 : Int32)) hx hb dX0_byNext_26 (by decide) ?_
      refine lv_goto (tgt := 31) hx hb dX0_byNext_27 (by decide) ?_
      exact hJ31 (vwrote x2.toNatClampNeg) (1 : Int32) hf ls (lv_sub hl [2, 3, 4, 5, 0] rfl)
def f_X0_byMove (N : Nat) (vwrote : Nat → Int32) (vcounts : Nat → Int32) (vp1_moves : Nat → Int32) (vp1_digits : Nat → Int32) (vp1_sizes : Nat → Int32) (vp1_orders : Nat → Int32) (x2 : Int32) (x3 : Int32) (x4 : Int32) (x5 : Int32) : Option (Int32) := (if x2 < 0 ∨ 6 ≤ x2.toNatClampNeg then none else (if (vp1_moves x2.toNatClampNeg) = (1 : Int32) then ((f_X0_byNext N vwrote vp1_sizes vp1_orders x2 x3 x4).bind (fun u3 => some u3)) else (if (vp1_moves x2.toNatClampNeg) = (2 : Int32) then ((f_X0_byLead N vcounts vp1_sizes vp1_orders x2 x3).bind (fun u5 => some u5)) else (if (vp1_moves x2.toNatClampNeg) = (3 : Int32) then ((f_X0_byFollow N vwrote vp1_digits vp1_sizes vp1_orders x2 x3).bind (fun u7 => some u7)) else (if (vp1_moves x2.toNatClampNeg) = (4 : Int32) then (if ((x5 >>> (x2 &&& 31)) &&& (1 : Int32)) = (1 : Int32) then ((f_X0_byLead N vcounts vp1_sizes vp1_orders x2 x3).bind (fun u11 => some u11)) else ((f_X5_firstAlive N vp1_sizes vp1_orders x2 (0 : Int32) x3).bind (fun u10 => some u10))) else ((f_X5_firstAlive N vp1_sizes vp1_orders x2 (0 : Int32) x3).bind (fun u12 => some u12)))))))
def w_X0_byMove (cI cJ cB : ClassId) (q_this q_p1 q_wrote q_writes q_counts q_p1_members q_p1_moves q_p1_digits q_p1_sizes q_p1_orders q_p1_above q_p1_below q_p1_struck q_p1_lots : Nat) (vballots : Int32) (vused : Int32) (vchosen : Int32) (vwaiter : Int32) (vwait : Int32) (vwrote : Nat → Int32) (vcounts : Nat → Int32) (vp1_blocks : Int32) (vp1_moves : Nat → Int32) (vp1_digits : Nat → Int32) (vp1_sizes : Nat → Int32) (vp1_orders : Nat → Int32) : va_W := [(q_this, .inr (0, [.int vballots, .int vused, .int vchosen, .int vwaiter, .int vwait, .ref q_wrote, .ref q_writes, .ref q_counts])), (q_wrote, .inl (cI, 6, .inl vwrote)), (q_counts, .inl (cI, 5, .inl vcounts)), (q_p1, .inr (5, [.int vp1_blocks, .ref q_p1_members, .ref q_p1_moves, .ref q_p1_digits, .ref q_p1_sizes, .ref q_p1_orders, .ref q_p1_above, .ref q_p1_below, .ref q_p1_struck, .ref q_p1_lots])), (q_p1_moves, .inl (cI, 6, .inl vp1_moves)), (q_p1_digits, .inl (cI, 6, .inl vp1_digits)), (q_p1_sizes, .inl (cI, 6, .inl vp1_sizes)), (q_p1_orders, .inl (cI, 30, .inl vp1_orders))]
set_option maxHeartbeats 4000000 in
set_option maxRecDepth 100000 in
theorem c_X0_byMove (l : Launch) (dC : Nat → ClassId) (dI : Nat → Nat → Nat) (cI cJ cB : ClassId) (q_this q_p1 q_wrote q_writes q_counts q_p1_members q_p1_moves q_p1_digits q_p1_sizes q_p1_orders q_p1_above q_p1_below q_p1_struck q_p1_lots : Nat) (vballots : Int32) (vused : Int32) (vchosen : Int32) (vwaiter : Int32) (vwait : Int32) (vwrote : Nat → Int32) (vcounts : Nat → Int32) (vp1_blocks : Int32) (vp1_moves : Nat → Int32) (vp1_digits : Nat → Int32) (vp1_sizes : Nat → Int32) (vp1_orders : Nat → Int32) (x2 : Int32) (x3 : Int32) (x4 : Int32) (x5 : Int32) {N : Nat} {r : Int32} (hf : f_X0_byMove N vwrote vcounts vp1_moves vp1_digits vp1_sizes vp1_orders x2 x3 x4 x5 = some r) : Met l yX0_byMove (Cond.code yX0_byMove cX0_byMove 6 (some .int) :: wsL_law) (kR 2) (va_Pc [.ref q_this, .ref q_p1, .int x2, .int x3, .int x4, .int x5] (pR (dC, dI) cI cJ cB (w_X0_byMove cI cJ cB q_this q_p1 q_wrote q_writes q_counts q_p1_members q_p1_moves q_p1_digits q_p1_sizes q_p1_orders q_p1_above q_p1_below q_p1_struck q_p1_lots vballots vused vchosen vwaiter vwait vwrote vcounts vp1_blocks vp1_moves vp1_digits vp1_sizes vp1_orders))) (qRi r) 0 0 (fun _ => False) := by
  refine k_ro (cc := cX0_byMove) (n := 6) (ret := (some .int)) (by decide) (Nat.le_of_ble_eq_true rfl) ?_
  intro p e s m args below meth c ls hx hb hr hml hts hown hlocks hK hP hl
  have hP : va_P (dC, dI) classes [(q_this, .inr (0, [.int vballots, .int vused, .int vchosen, .int vwaiter, .int vwait, .ref q_wrote, .ref q_writes, .ref q_counts])), (q_wrote, .inl (cI, 6, .inl vwrote)), (q_counts, .inl (cI, 5, .inl vcounts)), (q_p1, .inr (5, [.int vp1_blocks, .ref q_p1_members, .ref q_p1_moves, .ref q_p1_digits, .ref q_p1_sizes, .ref q_p1_orders, .ref q_p1_above, .ref q_p1_below, .ref q_p1_struck, .ref q_p1_lots])), (q_p1_moves, .inl (cI, 6, .inl vp1_moves)), (q_p1_digits, .inl (cI, 6, .inl vp1_digits)), (q_p1_sizes, .inl (cI, 6, .inl vp1_sizes)), (q_p1_orders, .inl (cI, 30, .inl vp1_orders))] s.heap := hP
  have hG : ∀ w ∈ wsL_law, w.before args s = true := fun w h => hts w (List.mem_cons_of_mem _ h)
  have hown : s.vm.findClass RX0 = some m.cls := hown
  have hl : lv_has ls 6 [(0, .ref q_this), (1, .ref q_p1), (2, .int x2), (3, .int x3), (4, .int x4), (5, .int x5)] := hl
  unfold f_X0_byMove at hf
  refine lv_aload_n hx hb dX0_byMove_0 rfl (lv_at hl 1 rfl) ?_
  refine p_get (D := (dC, dI)) (ci := 5) (v := .ref q_p1_moves) (C := RX5) (T := TX5) (N := 10) 2 fX5_2 hx hb hG inlX5 hown hK.1 hP 3 rfl rfl (by decide) (hG _ mw_466) rfl dX0_byMove_1 ?_
  refine lv_iload_n hx hb dX0_byMove_4 rfl (lv_at hl 2 rfl) ?_
  obtain ⟨g1, hf⟩ := og hf
  refine va_iald hx hb hK.1 hP 4 0 rfl rfl g1 dX0_byMove_5 ?_
  by_cases s2 : (vp1_moves x2.toNatClampNeg) = (1 : Int32)
  · replace hf := ot hf s2
    refine lv_tableIn (tgt := 36) (off := 30) hx hb dX0_byMove_6 (by rw [s2]; decide) (by rw [s2]; decide) (by rw [s2]; decide) (by decide) ?_
    refine lv_aload_n hx hb dX0_byMove_36 rfl (lv_at hl 0 rfl) ?_
    refine lv_aload_n hx hb dX0_byMove_37 rfl (lv_at hl 1 rfl) ?_
    refine lv_iload_n hx hb dX0_byMove_38 rfl (lv_at hl 2 rfl) ?_
    refine lv_iload_n hx hb dX0_byMove_39 rfl (lv_at hl 3 rfl) ?_
    refine lv_iload hx hb dX0_byMove_40 (lv_at hl 4 rfl) ?_
    obtain ⟨u3, hu3, hf⟩ := ob hf
    refine k_Vi (As := [.ref q_p1, .int x2, .int x3, .int x4]) (rest := []) ⟨hx, hb, hml, hown, hts⟩ hK hP [0, 1, 3, 6, 7] rfl (c_X0_byNext l dC dI cI cJ cB q_this q_p1 q_wrote q_writes q_counts q_p1_members q_p1_moves q_p1_digits q_p1_sizes q_p1_orders q_p1_above q_p1_below q_p1_struck q_p1_lots vballots vused vchosen vwaiter vwait vwrote vp1_blocks vp1_sizes vp1_orders x2 x3 x4 hu3) (gl_X0_115 hts ⟨(Nat.le_of_ble_eq_true rfl), (Nat.le_of_ble_eq_true rfl)⟩) 0 0 rfl rfl rfl rfl hl.1 rfl (Nat.le_of_ble_eq_true rfl) dX0_byMove_42 ⟨Nat.zero_le _, Nat.zero_le _⟩ ?_
    have hf := osi hf
    exact x_iR hx hb hr hlocks hf dX0_byMove_45
  replace hf := oe hf s2
  by_cases s4 : (vp1_moves x2.toNatClampNeg) = (2 : Int32)
  · replace hf := ot hf s4
    refine lv_tableIn (tgt := 46) (off := 40) hx hb dX0_byMove_6 (by rw [s4]; decide) (by rw [s4]; decide) (by rw [s4]; decide) (by decide) ?_
    refine lv_aload_n hx hb dX0_byMove_46 rfl (lv_at hl 0 rfl) ?_
    refine lv_aload_n hx hb dX0_byMove_47 rfl (lv_at hl 1 rfl) ?_
    refine lv_iload_n hx hb dX0_byMove_48 rfl (lv_at hl 2 rfl) ?_
    refine lv_iload_n hx hb dX0_byMove_49 rfl (lv_at hl 3 rfl) ?_
    obtain ⟨u5, hu5, hf⟩ := ob hf
    refine k_Vi (As := [.ref q_p1, .int x2, .int x3]) (rest := []) ⟨hx, hb, hml, hown, hts⟩ hK hP [0, 2, 3, 6, 7] rfl (c_X0_byLead l dC dI cI cJ cB q_this q_p1 q_wrote q_writes q_counts q_p1_members q_p1_moves q_p1_digits q_p1_sizes q_p1_orders q_p1_above q_p1_below q_p1_struck q_p1_lots vballots vused vchosen vwaiter vwait vcounts vp1_blocks vp1_sizes vp1_orders x2 x3 hu5) (gl_X0_119 hts ⟨(Nat.le_of_ble_eq_true rfl), (Nat.le_of_ble_eq_true rfl)⟩) 0 0 rfl rfl rfl rfl hl.1 rfl (Nat.le_of_ble_eq_true rfl) dX0_byMove_50 ⟨Nat.zero_le _, Nat.zero_le _⟩ ?_
    have hf := osi hf
    exact x_iR hx hb hr hlocks hf dX0_byMove_53
  replace hf := oe hf s4
  by_cases s6 : (vp1_moves x2.toNatClampNeg) = (3 : Int32)
  · replace hf := ot hf s6
    refine lv_tableIn (tgt := 54) (off := 48) hx hb dX0_byMove_6 (by rw [s6]; decide) (by rw [s6]; decide) (by rw [s6]; decide) (by decide) ?_
    refine lv_aload_n hx hb dX0_byMove_54 rfl (lv_at hl 0 rfl) ?_
    refine lv_aload_n hx hb dX0_byMove_55 rfl (lv_at hl 1 rfl) ?_
    refine lv_iload_n hx hb dX0_byMove_56 rfl (lv_at hl 2 rfl) ?_
    refine lv_iload_n hx hb dX0_byMove_57 rfl (lv_at hl 3 rfl) ?_
    obtain ⟨u7, hu7, hf⟩ := ob hf
    refine k_Vi (As := [.ref q_p1, .int x2, .int x3]) (rest := []) ⟨hx, hb, hml, hown, hts⟩ hK hP [0, 1, 3, 5, 6, 7] rfl (c_X0_byFollow l dC dI cI cJ cB q_this q_p1 q_wrote q_writes q_counts q_p1_members q_p1_moves q_p1_digits q_p1_sizes q_p1_orders q_p1_above q_p1_below q_p1_struck q_p1_lots vballots vused vchosen vwaiter vwait vwrote vp1_blocks vp1_digits vp1_sizes vp1_orders x2 x3 hu7) (gl_X0_123 hts ⟨(Nat.le_of_ble_eq_true rfl), (Nat.le_of_ble_eq_true rfl)⟩) 0 0 rfl rfl rfl rfl hl.1 rfl (Nat.le_of_ble_eq_true rfl) dX0_byMove_58 ⟨Nat.zero_le _, Nat.zero_le _⟩ ?_
    have hf := osi hf
    exact x_iR hx hb hr hlocks hf dX0_byMove_61
  replace hf := oe hf s6
  by_cases s8 : (vp1_moves x2.toNatClampNeg) = (4 : Int32)
  · replace hf := ot hf s8
    refine lv_tableIn (tgt := 62) (off := 56) hx hb dX0_byMove_6 (by rw [s8]; decide) (by rw [s8]; decide) (by rw [s8]; decide) (by decide) ?_
    refine lv_iload hx hb dX0_byMove_62 (lv_at hl 5 rfl) ?_
    refine lv_iload_n hx hb dX0_byMove_64 rfl (lv_at hl 2 rfl) ?_
    refine lv_ishr hx hb dX0_byMove_65 ?_
    refine lv_iconst (v := (1 : Int32)) hx hb dX0_byMove_66 (by decide) ?_
    refine lv_iand hx hb dX0_byMove_67 ?_
    refine lv_iconst (v := (1 : Int32)) hx hb dX0_byMove_68 (by decide) ?_
    refine lv_icmp_ne (tgt := 82) hx hb dX0_byMove_69 (by decide) (fun c9 => ?_) (fun c9 => ?_)
    · replace hf := oe hf c9
      refine lv_aload_n hx hb dX0_byMove_82 rfl (lv_at hl 1 rfl) ?_
      refine lv_iload_n hx hb dX0_byMove_83 rfl (lv_at hl 2 rfl) ?_
      refine lv_iconst (v := (0 : Int32)) hx hb dX0_byMove_84 (by decide) ?_
      refine lv_iload_n hx hb dX0_byMove_85 rfl (lv_at hl 3 rfl) ?_
      obtain ⟨u10, hu10, hf⟩ := ob hf
      refine k_Vi (As := [.int x2, .int (0 : Int32), .int x3]) (rest := []) ⟨hx, hb, hml, hown, hts⟩ hK hP [3, 6, 7] rfl (c_X5_firstAlive l dC dI cI cJ cB q_p1 q_p1_members q_p1_moves q_p1_digits q_p1_sizes q_p1_orders q_p1_above q_p1_below q_p1_struck q_p1_lots vp1_blocks vp1_sizes vp1_orders x2 (0 : Int32) x3 hu10) (gl_X0_107 hts ⟨(Nat.le_of_ble_eq_true rfl), (Nat.le_of_ble_eq_true rfl)⟩) 3 5 rfl rfl rfl rfl hl.1 rfl (Nat.le_of_ble_eq_true rfl) dX0_byMove_86 ⟨Nat.zero_le _, Nat.zero_le _⟩ ?_
      have hf := osi hf
      exact x_iR hx hb hr hlocks hf dX0_byMove_89
    · replace hf := ot hf c9
      refine lv_aload_n hx hb dX0_byMove_72 rfl (lv_at hl 0 rfl) ?_
      refine lv_aload_n hx hb dX0_byMove_73 rfl (lv_at hl 1 rfl) ?_
      refine lv_iload_n hx hb dX0_byMove_74 rfl (lv_at hl 2 rfl) ?_
      refine lv_iload_n hx hb dX0_byMove_75 rfl (lv_at hl 3 rfl) ?_
      obtain ⟨u11, hu11, hf⟩ := ob hf
      refine k_Vi (As := [.ref q_p1, .int x2, .int x3]) (rest := []) ⟨hx, hb, hml, hown, hts⟩ hK hP [0, 2, 3, 6, 7] rfl (c_X0_byLead l dC dI cI cJ cB q_this q_p1 q_wrote q_writes q_counts q_p1_members q_p1_moves q_p1_digits q_p1_sizes q_p1_orders q_p1_above q_p1_below q_p1_struck q_p1_lots vballots vused vchosen vwaiter vwait vcounts vp1_blocks vp1_sizes vp1_orders x2 x3 hu11) (gl_X0_119 hts ⟨(Nat.le_of_ble_eq_true rfl), (Nat.le_of_ble_eq_true rfl)⟩) 0 0 rfl rfl rfl rfl hl.1 rfl (Nat.le_of_ble_eq_true rfl) dX0_byMove_76 ⟨Nat.zero_le _, Nat.zero_le _⟩ ?_
      refine lv_goto (tgt := 89) hx hb dX0_byMove_79 (by decide) ?_
      have hf := osi hf
      exact x_iR hx hb hr hlocks hf dX0_byMove_89
  replace hf := oe hf s8
  refine lv_tableOut (tgt := 90) hx hb dX0_byMove_6 (by have := lv_neT (a := 1) s2 (by decide); have := lv_neT (a := 2) s4 (by decide); have := lv_neT (a := 3) s6 (by decide); have := lv_neT (a := 4) s8 (by decide); omega) (by decide) ?_
  refine lv_aload_n hx hb dX0_byMove_90 rfl (lv_at hl 1 rfl) ?_
  refine lv_iload_n hx hb dX0_byMove_91 rfl (lv_at hl 2 rfl) ?_
  refine lv_iconst (v := (0 : Int32)) hx hb dX0_byMove_92 (by decide) ?_
  refine lv_iload_n hx hb dX0_byMove_93 rfl (lv_at hl 3 rfl) ?_
  obtain ⟨u12, hu12, hf⟩ := ob hf
  refine k_Vi (As := [.int x2, .int (0 : Int32), .int x3]) (rest := []) ⟨hx, hb, hml, hown, hts⟩ hK hP [3, 6, 7] rfl (c_X5_firstAlive l dC dI cI cJ cB q_p1 q_p1_members q_p1_moves q_p1_digits q_p1_sizes q_p1_orders q_p1_above q_p1_below q_p1_struck q_p1_lots vp1_blocks vp1_sizes vp1_orders x2 (0 : Int32) x3 hu12) (gl_X0_107 hts ⟨(Nat.le_of_ble_eq_true rfl), (Nat.le_of_ble_eq_true rfl)⟩) 3 5 rfl rfl rfl rfl hl.1 rfl (Nat.le_of_ble_eq_true rfl) dX0_byMove_94 ⟨Nat.zero_le _, Nat.zero_le _⟩ ?_
  have hf := osi hf
  exact x_iR hx hb hr hlocks hf dX0_byMove_97
def f_X0_firmBallot (vwaiter : Int32) (vwait : Int32) (x1 : Int32) : Option (Int32) := (if x1 = vwaiter then some vwait else some (0 : Int32))
def w_X0_firmBallot (cI cJ cB : ClassId) (q_this q_wrote q_writes q_counts : Nat) (vballots : Int32) (vused : Int32) (vchosen : Int32) (vwaiter : Int32) (vwait : Int32) : va_W := [(q_this, .inr (0, [.int vballots, .int vused, .int vchosen, .int vwaiter, .int vwait, .ref q_wrote, .ref q_writes, .ref q_counts]))]
set_option maxHeartbeats 4000000 in
set_option maxRecDepth 100000 in
theorem c_X0_firmBallot (l : Launch) (dC : Nat → ClassId) (dI : Nat → Nat → Nat) (cI cJ cB : ClassId) (q_this q_wrote q_writes q_counts : Nat) (vballots : Int32) (vused : Int32) (vchosen : Int32) (vwaiter : Int32) (vwait : Int32) (x1 : Int32) {r : Int32} (hf : f_X0_firmBallot vwaiter vwait x1 = some r) : Met l yX0_firmBallot (Cond.code yX0_firmBallot cX0_firmBallot 2 (some .int) :: wsL_law) (kR 0) (va_Pc [.ref q_this, .int x1] (pR (dC, dI) cI cJ cB (w_X0_firmBallot cI cJ cB q_this q_wrote q_writes q_counts vballots vused vchosen vwaiter vwait))) (qRi r) 0 0 (fun _ => False) := by
  refine k_ro (cc := cX0_firmBallot) (n := 2) (ret := (some .int)) (by decide) (Nat.le_of_ble_eq_true rfl) ?_
  intro p e s m args below meth c ls hx hb hr hml hts hown hlocks hK hP hl
  have hP : va_P (dC, dI) classes [(q_this, .inr (0, [.int vballots, .int vused, .int vchosen, .int vwaiter, .int vwait, .ref q_wrote, .ref q_writes, .ref q_counts]))] s.heap := hP
  have hG : ∀ w ∈ wsL_law, w.before args s = true := fun w h => hts w (List.mem_cons_of_mem _ h)
  have hown : s.vm.findClass RX0 = some m.cls := hown
  have hl : lv_has ls 2 [(0, .ref q_this), (1, .int x1)] := hl
  unfold f_X0_firmBallot at hf
  refine lv_iload_n hx hb dX0_firmBallot_0 rfl (lv_at hl 1 rfl) ?_
  refine lv_aload_n hx hb dX0_firmBallot_1 rfl (lv_at hl 0 rfl) ?_
  refine p_get (D := (dC, dI)) (ci := 0) (v := .int vwaiter) (C := RX0) (T := TX0) (N := 8) 3 fX0_3 hx hb hG inlX0 hown hK.1 hP 0 rfl rfl (by decide) (hG _ mw_73) rfl dX0_firmBallot_2 ?_
  refine lv_icmp_ne (tgt := 15) hx hb dX0_firmBallot_5 (by decide) (fun c1 => ?_) (fun c1 => ?_)
  · replace hf := oe hf c1
    refine lv_iconst (v := (0 : Int32)) hx hb dX0_firmBallot_15 (by decide) ?_
    have hf := osi hf
    exact x_iR hx hb hr hlocks hf dX0_firmBallot_16
  · replace hf := ot hf c1
    refine lv_aload_n hx hb dX0_firmBallot_8 rfl (lv_at hl 0 rfl) ?_
    refine p_get (D := (dC, dI)) (ci := 0) (v := .int vwait) (C := RX0) (T := TX0) (N := 8) 4 fX0_4 hx hb hG inlX0 hown hK.1 hP 0 rfl rfl (by decide) (hG _ mw_74) rfl dX0_firmBallot_9 ?_
    refine lv_goto (tgt := 16) hx hb dX0_firmBallot_12 (by decide) ?_
    have hf := osi hf
    exact x_iR hx hb hr hlocks hf dX0_firmBallot_16
def f_X0_draw_L71 (x3 : Int32) (x2 : Int32) (vused : Int32) : Option ((Int32 × Int32 × Int32) ⊕ (Int32 × Int32)) := some (.inl (x2, (x3 + (1 : Int32)), vused))
def f_X0_draw_L61 (vused : Int32) (x3 : Int32) (x2 : Int32) : Option ((Int32 × Int32 × Int32) ⊕ (Int32 × Int32)) := (f_X0_draw_L71 x3 x2 (vused + (1 : Int32)))
def f_X0_draw_B4 (vballots : Int32) (vwaiter : Int32) (vwait : Int32) (vp1_blocks : Int32) (vp1_moves : Nat → Int32) (vp1_digits : Nat → Int32) (vp1_lots : Nat → Int32) (x2 : Int32) (x3 : Int32) (vused : Int32) : Option ((Int32 × Int32 × Int32) ⊕ (Int32 × Int32)) := (if vp1_blocks ≤ x3 then some (.inr (x2, vused)) else (if x3 < 0 ∨ 6 ≤ x3.toNatClampNeg then none else (if (vp1_moves x3.toNatClampNeg) = (4 : Int32) then ((f_X0_firmBallot vwaiter vwait x3).bind (fun u4 => (if vballots ≤ u4 then (f_X0_draw_L71 x3 x2 vused) else (if (vused - vused / (16 : Int32) * (16 : Int32)) < 0 ∨ 16 ≤ (vused - vused / (16 : Int32) * (16 : Int32)).toNatClampNeg then none else (if (vp1_digits x3.toNatClampNeg) ≤ (vp1_lots (vused - vused / (16 : Int32) * (16 : Int32)).toNatClampNeg) then (f_X0_draw_L61 vused x3 x2) else (f_X0_draw_L61 vused x3 (x2 ||| ((1 : Int32) <<< (x3 &&& 31))))))))) else (f_X0_draw_L71 x3 x2 vused))))
def f_X0_draw (N : Nat) (vballots : Int32) (vused : Int32) (vwaiter : Int32) (vwait : Int32) (vp1_blocks : Int32) (vp1_moves : Nat → Int32) (vp1_digits : Nat → Int32) (vp1_lots : Nat → Int32) : Option (Int32 × Int32) := ((lp (fun s => f_X0_draw_B4 vballots vwaiter vwait vp1_blocks vp1_moves vp1_digits vp1_lots s.1 s.2.1 s.2.2) N ((0 : Int32), (0 : Int32), vused)).bind (fun e8 => some e8))
def w_X0_draw (cI cJ cB : ClassId) (q_this q_p1 q_wrote q_writes q_counts q_p1_members q_p1_moves q_p1_digits q_p1_sizes q_p1_orders q_p1_above q_p1_below q_p1_struck q_p1_lots : Nat) (vballots : Int32) (vused : Int32) (vchosen : Int32) (vwaiter : Int32) (vwait : Int32) (vp1_blocks : Int32) (vp1_moves : Nat → Int32) (vp1_digits : Nat → Int32) (vp1_lots : Nat → Int32) : va_W := [(q_this, .inr (0, [.int vballots, .int vused, .int vchosen, .int vwaiter, .int vwait, .ref q_wrote, .ref q_writes, .ref q_counts])), (q_p1, .inr (5, [.int vp1_blocks, .ref q_p1_members, .ref q_p1_moves, .ref q_p1_digits, .ref q_p1_sizes, .ref q_p1_orders, .ref q_p1_above, .ref q_p1_below, .ref q_p1_struck, .ref q_p1_lots])), (q_p1_moves, .inl (cI, 6, .inl vp1_moves)), (q_p1_digits, .inl (cI, 6, .inl vp1_digits)), (q_p1_lots, .inl (cI, 16, .inl vp1_lots))]
set_option maxHeartbeats 4000000 in
set_option maxRecDepth 100000 in
theorem c_X0_draw (l : Launch) (dC : Nat → ClassId) (dI : Nat → Nat → Nat) (cI cJ cB : ClassId) (q_this q_p1 q_wrote q_writes q_counts q_p1_members q_p1_moves q_p1_digits q_p1_sizes q_p1_orders q_p1_above q_p1_below q_p1_struck q_p1_lots : Nat) (vballots : Int32) (vused : Int32) (vchosen : Int32) (vwaiter : Int32) (vwait : Int32) (vp1_blocks : Int32) (vp1_moves : Nat → Int32) (vp1_digits : Nat → Int32) (vp1_lots : Nat → Int32) (sz : Nat) {N : Nat} {r : Int32 × Int32} (hf : f_X0_draw N vballots vused vwaiter vwait vp1_blocks vp1_moves vp1_digits vp1_lots = some r) : Met l yX0_draw (Cond.code yX0_draw cX0_draw 4 (some .int) :: wsL_law) (kR 1) (va_Pc [.ref q_this, .ref q_p1] (pW (dC, dI) cI cJ cB (w_X0_draw cI cJ cB q_this q_p1 q_wrote q_writes q_counts q_p1_members q_p1_moves q_p1_digits q_p1_sizes q_p1_orders q_p1_above q_p1_below q_p1_struck q_p1_lots vballots vused vchosen vwaiter vwait vp1_blocks vp1_moves vp1_digits vp1_lots) sz)) (qWi r.1 (fun w => w = (w_X0_draw cI cJ cB q_this q_p1 q_wrote q_writes q_counts q_p1_members q_p1_moves q_p1_digits q_p1_sizes q_p1_orders q_p1_above q_p1_below q_p1_struck q_p1_lots vballots r.2 vchosen vwaiter vwait vp1_blocks vp1_moves vp1_digits vp1_lots)) (dC, dI) (va_A (w_X0_draw cI cJ cB q_this q_p1 q_wrote q_writes q_counts q_p1_members q_p1_moves q_p1_digits q_p1_sizes q_p1_orders q_p1_above q_p1_below q_p1_struck q_p1_lots vballots vused vchosen vwaiter vwait vp1_blocks vp1_moves vp1_digits vp1_lots) sz)) 0 0 (va_A (w_X0_draw cI cJ cB q_this q_p1 q_wrote q_writes q_counts q_p1_members q_p1_moves q_p1_digits q_p1_sizes q_p1_orders q_p1_above q_p1_below q_p1_struck q_p1_lots vballots vused vchosen vwaiter vwait vp1_blocks vp1_moves vp1_digits vp1_lots) sz) := by
  refine k_wr (Qc := fun A => (qWi r.1 (fun w => w = (w_X0_draw cI cJ cB q_this q_p1 q_wrote q_writes q_counts q_p1_members q_p1_moves q_p1_digits q_p1_sizes q_p1_orders q_p1_above q_p1_below q_p1_struck q_p1_lots vballots r.2 vchosen vwaiter vwait vp1_blocks vp1_moves vp1_digits vp1_lots)) (dC, dI) A)) (cc := cX0_draw) (n := 4) (ret := (some .int)) (by decide) (Nat.le_of_ble_eq_true rfl) ?_
  intro p e s m args below meth c ls A hx hb hr hml hts hown hlocks hnm hA hK hP hD hS hl
  have hD : va_D A [(q_this, .inr (0, [.int vballots, .int vused, .int vchosen, .int vwaiter, .int vwait, .ref q_wrote, .ref q_writes, .ref q_counts])), (q_p1, .inr (5, [.int vp1_blocks, .ref q_p1_members, .ref q_p1_moves, .ref q_p1_digits, .ref q_p1_sizes, .ref q_p1_orders, .ref q_p1_above, .ref q_p1_below, .ref q_p1_struck, .ref q_p1_lots])), (q_p1_moves, .inl (cI, 6, .inl vp1_moves)), (q_p1_digits, .inl (cI, 6, .inl vp1_digits)), (q_p1_lots, .inl (cI, 16, .inl vp1_lots))] := hD
  have hP : va_P (dC, dI) classes [(q_this, .inr (0, [.int vballots, .int vused, .int vchosen, .int vwaiter, .int vwait, .ref q_wrote, .ref q_writes, .ref q_counts])), (q_p1, .inr (5, [.int vp1_blocks, .ref q_p1_members, .ref q_p1_moves, .ref q_p1_digits, .ref q_p1_sizes, .ref q_p1_orders, .ref q_p1_above, .ref q_p1_below, .ref q_p1_struck, .ref q_p1_lots])), (q_p1_moves, .inl (cI, 6, .inl vp1_moves)), (q_p1_digits, .inl (cI, 6, .inl vp1_digits)), (q_p1_lots, .inl (cI, 16, .inl vp1_lots))] s.heap := hP
  have hG : ∀ w ∈ wsL_law, w.before args s = true := fun w h => hts w (List.mem_cons_of_mem _ h)
  have hown : s.vm.findClass RX0 = some m.cls := hown
  have hl : lv_has ls 4 [(0, .ref q_this), (1, .ref q_p1)] := hl
  unfold f_X0_draw at hf
  have hL4 : ∀ (n : Nat) (x2 : Int32) (x3 : Int32) (vused : Int32) (res4 : Int32 × Int32), lp (fun s => f_X0_draw_B4 vballots vwaiter vwait vp1_blocks vp1_moves vp1_digits vp1_lots s.1 s.2.1 s.2.2) n (x2, x3, vused) = some res4 → ∀ (H : Heap) (locs : List Loc) (ls : Array Slot), va_P (dC, dI) classes [(q_this, .inr (0, [.int vballots, .int vused, .int vchosen, .int vwaiter, .int vwait, .ref q_wrote, .ref q_writes, .ref q_counts])), (q_p1, .inr (5, [.int vp1_blocks, .ref q_p1_members, .ref q_p1_moves, .ref q_p1_digits, .ref q_p1_sizes, .ref q_p1_orders, .ref q_p1_above, .ref q_p1_below, .ref q_p1_struck, .ref q_p1_lots])), (q_p1_moves, .inl (cI, 6, .inl vp1_moves)), (q_p1_digits, .inl (cI, 6, .inl vp1_digits)), (q_p1_lots, .inl (cI, 16, .inl vp1_lots))] H → va_D A [(q_this, .inr (0, [.int vballots, .int vused, .int vchosen, .int vwaiter, .int vwait, .ref q_wrote, .ref q_writes, .ref q_counts])), (q_p1, .inr (5, [.int vp1_blocks, .ref q_p1_members, .ref q_p1_moves, .ref q_p1_digits, .ref q_p1_sizes, .ref q_p1_orders, .ref q_p1_above, .ref q_p1_below, .ref q_p1_struck, .ref q_p1_lots])), (q_p1_moves, .inl (cI, 6, .inl vp1_moves)), (q_p1_digits, .inl (cI, 6, .inl vp1_digits)), (q_p1_lots, .inl (cI, 16, .inl vp1_lots))] → va_S A s.heap H locs → lv_has ls 4 [(0, .ref q_this), (1, .ref q_p1), (2, .int x2), (3, .int x3)] → (∀ q9 : Int32 × Int32, res4 = q9 → q9 = r) → W p l e (kR 1) s m args below meth c H locs 0 0 (MQ below (qWi r.1 (fun w => w = (w_X0_draw cI cJ cB q_this q_p1 q_wrote q_writes q_counts q_p1_members q_p1_moves q_p1_digits q_p1_sizes q_p1_orders q_p1_above q_p1_below q_p1_struck q_p1_lots vballots r.2 vchosen vwaiter vwait vp1_blocks vp1_moves vp1_digits vp1_lots)) (dC, dI) A) args s 0 0 A) (F0 m 4 ls []) := by
    intro n
    induction n with
    | zero => intro x2 x3 vused res4 h9; exact (lp_zero h9).elim
    | succ n ih =>
      intro x2 x3 vused res4 h9 H locs ls hP hD hS hl KR
      obtain ⟨o4, hf, hnext, hexit⟩ := lp_succ h9
      have hf : f_X0_draw_B4 vballots vwaiter vwait vp1_blocks vp1_moves vp1_digits vp1_lots x2 x3 vused = some o4 := hf
      unfold f_X0_draw_B4 at hf
      have hJ71 : ∀ (x2 : Int32) (vused : Int32), f_X0_draw_L71 x3 x2 vused = some o4 → ∀ (H : Heap) (locs : List Loc) (ls : Array Slot), va_P (dC, dI) classes [(q_this, .inr (0, [.int vballots, .int vused, .int vchosen, .int vwaiter, .int vwait, .ref q_wrote, .ref q_writes, .ref q_counts])), (q_p1, .inr (5, [.int vp1_blocks, .ref q_p1_members, .ref q_p1_moves, .ref q_p1_digits, .ref q_p1_sizes, .ref q_p1_orders, .ref q_p1_above, .ref q_p1_below, .ref q_p1_struck, .ref q_p1_lots])), (q_p1_moves, .inl (cI, 6, .inl vp1_moves)), (q_p1_digits, .inl (cI, 6, .inl vp1_digits)), (q_p1_lots, .inl (cI, 16, .inl vp1_lots))] H → va_D A [(q_this, .inr (0, [.int vballots, .int vused, .int vchosen, .int vwaiter, .int vwait, .ref q_wrote, .ref q_writes, .ref q_counts])), (q_p1, .inr (5, [.int vp1_blocks, .ref q_p1_members, .ref q_p1_moves, .ref q_p1_digits, .ref q_p1_sizes, .ref q_p1_orders, .ref q_p1_above, .ref q_p1_below, .ref q_p1_struck, .ref q_p1_lots])), (q_p1_moves, .inl (cI, 6, .inl vp1_moves)), (q_p1_digits, .inl (cI, 6, .inl vp1_digits)), (q_p1_lots, .inl (cI, 16, .inl vp1_lots))] → va_S A s.heap H locs → lv_has ls 4 [(0, .ref q_this), (1, .ref q_p1), (2, .int x2), (3, .int x3)] → W p l e (kR 1) s m args below meth c H locs 0 0 (MQ below (qWi r.1 (fun w => w = (w_X0_draw cI cJ cB q_this q_p1 q_wrote q_writes q_counts q_p1_members q_p1_moves q_p1_digits q_p1_sizes q_p1_orders q_p1_above q_p1_below q_p1_struck q_p1_lots vballots r.2 vchosen vwaiter vwait vp1_blocks vp1_moves vp1_digits vp1_lots)) (dC, dI) A) args s 0 0 A) (F0 m 71 ls []) := by
        intro x2 vused hf H locs ls hP hD hS hl
        unfold f_X0_draw_L71 at hf
        refine lv_iinc (v := (x3 + (1 : Int32))) (lv' := [(3, .int (x3 + (1 : Int32))), (0, .ref q_this), (1, .ref q_p1), (2, .int x2)]) hx hb dX0_draw_71 hl (k := 3) rfl rfl (by decide) rfl (fun ls hl => ?_)
        refine lv_goto (tgt := 4) hx hb dX0_draw_74 (by decide) ?_
        exact ih x2 (x3 + (1 : Int32)) vused res4 (hnext _ (osi hf).symm) _ _ ls hP hD hS (lv_sub hl [1, 2, 3, 0] rfl) KR
      have hJ61 : ∀ (x2 : Int32), f_X0_draw_L61 vused x3 x2 = some o4 → ∀ (H : Heap) (locs : List Loc) (ls : Array Slot), va_P (dC, dI) classes [(q_this, .inr (0, [.int vballots, .int vused, .int vchosen, .int vwaiter, .int vwait, .ref q_wrote, .ref q_writes, .ref q_counts])), (q_p1, .inr (5, [.int vp1_blocks, .ref q_p1_members, .ref q_p1_moves, .ref q_p1_digits, .ref q_p1_sizes, .ref q_p1_orders, .ref q_p1_above, .ref q_p1_below, .ref q_p1_struck, .ref q_p1_lots])), (q_p1_moves, .inl (cI, 6, .inl vp1_moves)), (q_p1_digits, .inl (cI, 6, .inl vp1_digits)), (q_p1_lots, .inl (cI, 16, .inl vp1_lots))] H → va_D A [(q_this, .inr (0, [.int vballots, .int vused, .int vchosen, .int vwaiter, .int vwait, .ref q_wrote, .ref q_writes, .ref q_counts])), (q_p1, .inr (5, [.int vp1_blocks, .ref q_p1_members, .ref q_p1_moves, .ref q_p1_digits, .ref q_p1_sizes, .ref q_p1_orders, .ref q_p1_above, .ref q_p1_below, .ref q_p1_struck, .ref q_p1_lots])), (q_p1_moves, .inl (cI, 6, .inl vp1_moves)), (q_p1_digits, .inl (cI, 6, .inl vp1_digits)), (q_p1_lots, .inl (cI, 16, .inl vp1_lots))] → va_S A s.heap H locs → lv_has ls 4 [(0, .ref q_this), (1, .ref q_p1), (2, .int x2), (3, .int x3)] → W p l e (kR 1) s m args below meth c H locs 0 0 (MQ below (qWi r.1 (fun w => w = (w_X0_draw cI cJ cB q_this q_p1 q_wrote q_writes q_counts q_p1_members q_p1_moves q_p1_digits q_p1_sizes q_p1_orders q_p1_above q_p1_below q_p1_struck q_p1_lots vballots r.2 vchosen vwaiter vwait vp1_blocks vp1_moves vp1_digits vp1_lots)) (dC, dI) A) args s 0 0 A) (F0 m 61 ls []) := by
        intro x2 hf H locs ls hP hD hS hl
        unfold f_X0_draw_L61 at hf
        refine lv_aload_n hx hb dX0_draw_61 rfl (lv_at hl 0 rfl) ?_
        refine lv_dup hx hb dX0_draw_62 rfl ?_
        refine p_get (D := (dC, dI)) (ci := 0) (v := .int vused) (C := RX0) (T := TX0) (N := 8) 1 fX0_1 hx hb hG inlX0 hown hK.1 hP 0 rfl rfl (by decide) (hG _ mw_71) rfl dX0_draw_63 ?_
        refine lv_iconst (v := (1 : Int32)) hx hb dX0_draw_66 (by decide) ?_
        refine lv_iadd hx hb dX0_draw_67 ?_
        refine p_put (D := (dC, dI)) (ci := 0) (v := .int (vused + (1 : Int32))) (ty := .int) (C := RX0) (T := TX0) (N := 8) 1 fX0_1 hx hb hG inlX0 tyX0 tyX0_ok nmX0 hown hK.1 hP hD hS 0 rfl rfl (by decide) (hG _ mw_71) rfl (by decide +kernel) rfl rfl (Nat.le_of_ble_eq_true rfl) dX0_draw_68 (fun H locs hP hD hS => ?_)
        have hP : va_P (dC, dI) classes [(q_this, .inr (0, [.int vballots, .int (vused + (1 : Int32)), .int vchosen, .int vwaiter, .int vwait, .ref q_wrote, .ref q_writes, .ref q_counts])), (q_p1, .inr (5, [.int vp1_blocks, .ref q_p1_members, .ref q_p1_moves, .ref q_p1_digits, .ref q_p1_sizes, .ref q_p1_orders, .ref q_p1_above, .ref q_p1_below, .ref q_p1_struck, .ref q_p1_lots])), (q_p1_moves, .inl (cI, 6, .inl vp1_moves)), (q_p1_digits, .inl (cI, 6, .inl vp1_digits)), (q_p1_lots, .inl (cI, 16, .inl vp1_lots))] H := hP
        have hD : va_D A [(q_this, .inr (0, [.int vballots, .int (vused + (1 : Int32)), .int vchosen, .int vwaiter, .int vwait, .ref q_wrote, .ref q_writes, .ref q_counts])), (q_p1, .inr (5, [.int vp1_blocks, .ref q_p1_members, .ref q_p1_moves, .ref q_p1_digits, .ref q_p1_sizes, .ref q_p1_orders, .ref q_p1_above, .ref q_p1_below, .ref q_p1_struck, .ref q_p1_lots])), (q_p1_moves, .inl (cI, 6, .inl vp1_moves)), (q_p1_digits, .inl (cI, 6, .inl vp1_digits)), (q_p1_lots, .inl (cI, 16, .inl vp1_lots))] := hD
        exact hJ71 x2 (vused + (1 : Int32)) hf _ _ ls hP hD hS (lv_sub hl [0, 1, 2, 3] rfl)
      refine lv_iload_n hx hb dX0_draw_4 rfl (lv_at hl 3 rfl) ?_
      refine lv_aload_n hx hb dX0_draw_5 rfl (lv_at hl 1 rfl) ?_
      refine p_get (D := (dC, dI)) (ci := 5) (v := .int vp1_blocks) (C := RX5) (T := TX5) (N := 10) 0 fX5_0 hx hb hG inlX5 hown hK.1 hP 1 rfl rfl (by decide) (hG _ mw_465) rfl dX0_draw_6 ?_
      refine lv_icmp_ge (tgt := 77) hx hb dX0_draw_9 (by decide) (fun c1 => ?_) (fun c1 => ?_)
      · replace hf := ot hf c1
        refine lv_iload_n hx hb dX0_draw_77 rfl (lv_at hl 2 rfl) ?_
        have hf := KR _ (hexit _ (osi hf).symm).symm
        exact x_iW hx hb hr hlocks hP hD hS (by have h9 := congrArg (fun z : Int32 × Int32 => (w_X0_draw cI cJ cB q_this q_p1 q_wrote q_writes q_counts q_p1_members q_p1_moves q_p1_digits q_p1_sizes q_p1_orders q_p1_above q_p1_below q_p1_struck q_p1_lots vballots z.2 vchosen vwaiter vwait vp1_blocks vp1_moves vp1_digits vp1_lots)) hf; exact h9) (by have h9 := congrArg (fun z : Int32 × Int32 => z.1) hf; exact h9) dX0_draw_78
      · replace hf := oe hf c1
        refine lv_aload_n hx hb dX0_draw_12 rfl (lv_at hl 1 rfl) ?_
        refine p_get (D := (dC, dI)) (ci := 5) (v := .ref q_p1_moves) (C := RX5) (T := TX5) (N := 10) 2 fX5_2 hx hb hG inlX5 hown hK.1 hP 1 rfl rfl (by decide) (hG _ mw_466) rfl dX0_draw_13 ?_
        refine lv_iload_n hx hb dX0_draw_16 rfl (lv_at hl 3 rfl) ?_
        obtain ⟨g2, hf⟩ := og hf
        refine va_iald hx hb hK.1 hP 2 0 rfl rfl g2 dX0_draw_17 ?_
        refine lv_iconst (v := (4 : Int32)) hx hb dX0_draw_18 (by decide) ?_
        refine lv_icmp_ne (tgt := 71) hx hb dX0_draw_19 (by decide) (fun c3 => ?_) (fun c3 => ?_)
        · replace hf := oe hf c3
          exact hJ71 x2 vused hf _ _ ls hP hD hS (lv_sub hl [0, 1, 2, 3] rfl)
        · replace hf := ot hf c3
          refine lv_aload_n hx hb dX0_draw_22 rfl (lv_at hl 0 rfl) ?_
          refine p_get (D := (dC, dI)) (ci := 0) (v := .int vballots) (C := RX0) (T := TX0) (N := 8) 0 fX0_0 hx hb hG inlX0 hown hK.1 hP 0 rfl rfl (by decide) (hG _ mw_70) rfl dX0_draw_23 ?_
          refine lv_aload_n hx hb dX0_draw_26 rfl (lv_at hl 0 rfl) ?_
          refine lv_iload_n hx hb dX0_draw_27 rfl (lv_at hl 3 rfl) ?_
          obtain ⟨u4, hu4, hf⟩ := ob hf
          refine k_Vi (As := [.int x3]) (rest := [.int vballots]) ⟨hx, hb, hml, hown, hts⟩ hK hP [0] rfl (c_X0_firmBallot l dC dI cI cJ cB q_this q_wrote q_writes q_counts vballots vused vchosen vwaiter vwait x3 hu4) (gl_X0_86 hts ⟨(Nat.le_of_ble_eq_true rfl), (Nat.le_of_ble_eq_true rfl)⟩) 0 0 rfl rfl rfl rfl hl.1 rfl (Nat.le_of_ble_eq_true rfl) dX0_draw_28 ⟨Nat.zero_le _, Nat.zero_le _⟩ ?_
          refine lv_icmp_le (tgt := 71) hx hb dX0_draw_31 (by decide) (fun c5 => ?_) (fun c5 => ?_)
          · replace hf := ot hf c5
            exact hJ71 x2 vused hf _ _ ls hP hD hS (lv_sub hl [0, 1, 2, 3] rfl)
          · replace hf := oe hf c5
            refine lv_aload_n hx hb dX0_draw_34 rfl (lv_at hl 1 rfl) ?_
            refine p_get (D := (dC, dI)) (ci := 5) (v := .ref q_p1_lots) (C := RX5) (T := TX5) (N := 10) 9 fX5_9 hx hb hG inlX5 hown hK.1 hP 1 rfl rfl (by decide) (hG _ mw_467) rfl dX0_draw_35 ?_
            refine lv_aload_n hx hb dX0_draw_38 rfl (lv_at hl 0 rfl) ?_
            refine p_get (D := (dC, dI)) (ci := 0) (v := .int vused) (C := RX0) (T := TX0) (N := 8) 1 fX0_1 hx hb hG inlX0 hown hK.1 hP 0 rfl rfl (by decide) (hG _ mw_71) rfl dX0_draw_39 ?_
            refine lv_bipush (v := (16 : Int32)) hx hb dX0_draw_42 (by decide) ?_
            refine lv_irem hx hb dX0_draw_44 (by decide) ?_
            obtain ⟨g6, hf⟩ := og hf
            refine va_iald hx hb hK.1 hP 4 0 rfl rfl g6 dX0_draw_45 ?_
            refine lv_aload_n hx hb dX0_draw_46 rfl (lv_at hl 1 rfl) ?_
            refine p_get (D := (dC, dI)) (ci := 5) (v := .ref q_p1_digits) (C := RX5) (T := TX5) (N := 10) 3 fX5_3 hx hb hG inlX5 hown hK.1 hP 1 rfl rfl (by decide) (hG _ mw_468) rfl dX0_draw_47 ?_
            refine lv_iload_n hx hb dX0_draw_50 rfl (lv_at hl 3 rfl) ?_
            refine va_iald hx hb hK.1 hP 3 0 rfl rfl g2 dX0_draw_51 ?_
            refine lv_icmp_ge (tgt := 61) hx hb dX0_draw_52 (by decide) (fun c7 => ?_) (fun c7 => ?_)
            · replace hf := ot hf c7
              exact hJ61 x2 hf _ _ ls hP hD hS (lv_sub hl [0, 1, 2, 3] rfl)
            · replace hf := oe hf c7
              refine lv_iload_n hx hb dX0_draw_55 rfl (lv_at hl 2 rfl) ?_
              refine lv_iconst (v := (1 : Int32)) hx hb dX0_draw_56 (by decide) ?_
              refine lv_iload_n hx hb dX0_draw_57 rfl (lv_at hl 3 rfl) ?_
              refine lv_ishl hx hb dX0_draw_58 ?_
              refine lv_ior hx hb dX0_draw_59 ?_
              refine lv_istore_n (lv' := [(2, .int (x2 ||| ((1 : Int32) <<< (x3 &&& 31)))), (0, .ref q_this), (1, .ref q_p1), (3, .int x3)]) hx hb dX0_draw_60 rfl hl (by decide) rfl (fun ls hl => ?_)
              exact hJ61 (x2 ||| ((1 : Int32) <<< (x3 &&& 31))) hf _ _ ls hP hD hS (lv_sub hl [1, 2, 0, 3] rfl)
  refine lv_iconst (v := (0 : Int32)) hx hb dX0_draw_0 (by decide) ?_
  refine lv_istore_n (lv' := [(2, .int (0 : Int32)), (0, .ref q_this), (1, .ref q_p1)]) hx hb dX0_draw_1 rfl hl (by decide) rfl (fun ls hl => ?_)
  refine lv_iconst (v := (0 : Int32)) hx hb dX0_draw_2 (by decide) ?_
  refine lv_istore_n (lv' := [(3, .int (0 : Int32)), (2, .int (0 : Int32)), (0, .ref q_this), (1, .ref q_p1)]) hx hb dX0_draw_3 rfl hl (by decide) rfl (fun ls hl => ?_)
  obtain ⟨e8, hp8, hf⟩ := ob hf
  exact hL4 N (0 : Int32) (0 : Int32) vused e8 hp8 _ _ ls hP hD hS (lv_sub hl [2, 3, 1, 0] rfl) (fun q9 h9 => by subst h9; exact osi hf)
def f_X0_endedBy (vballots : Int32) (vchosen : Int32) : Option (Int32) := (if vchosen = (-1 : Int32) then some (32 : Int32) else some (vballots - (1 : Int32)))
def w_X0_endedBy (cI cJ cB : ClassId) (q_this q_wrote q_writes q_counts : Nat) (vballots : Int32) (vused : Int32) (vchosen : Int32) (vwaiter : Int32) (vwait : Int32) : va_W := [(q_this, .inr (0, [.int vballots, .int vused, .int vchosen, .int vwaiter, .int vwait, .ref q_wrote, .ref q_writes, .ref q_counts]))]
set_option maxHeartbeats 4000000 in
set_option maxRecDepth 100000 in
theorem c_X0_endedBy (l : Launch) (dC : Nat → ClassId) (dI : Nat → Nat → Nat) (cI cJ cB : ClassId) (q_this q_wrote q_writes q_counts : Nat) (vballots : Int32) (vused : Int32) (vchosen : Int32) (vwaiter : Int32) (vwait : Int32) {r : Int32} (hf : f_X0_endedBy vballots vchosen = some r) : Met l yX0_endedBy (Cond.code yX0_endedBy cX0_endedBy 1 (some .int) :: wsL_law) (kR 0) (va_Pc [.ref q_this] (pR (dC, dI) cI cJ cB (w_X0_endedBy cI cJ cB q_this q_wrote q_writes q_counts vballots vused vchosen vwaiter vwait))) (qRi r) 0 0 (fun _ => False) := by
  refine k_ro (cc := cX0_endedBy) (n := 1) (ret := (some .int)) (by decide) (Nat.le_of_ble_eq_true rfl) ?_
  intro p e s m args below meth c ls hx hb hr hml hts hown hlocks hK hP hl
  have hP : va_P (dC, dI) classes [(q_this, .inr (0, [.int vballots, .int vused, .int vchosen, .int vwaiter, .int vwait, .ref q_wrote, .ref q_writes, .ref q_counts]))] s.heap := hP
  have hG : ∀ w ∈ wsL_law, w.before args s = true := fun w h => hts w (List.mem_cons_of_mem _ h)
  have hown : s.vm.findClass RX0 = some m.cls := hown
  have hl : lv_has ls 1 [(0, .ref q_this)] := hl
  unfold f_X0_endedBy at hf
  refine lv_aload_n hx hb dX0_endedBy_0 rfl (lv_at hl 0 rfl) ?_
  refine p_get (D := (dC, dI)) (ci := 0) (v := .int vchosen) (C := RX0) (T := TX0) (N := 8) 2 fX0_2 hx hb hG inlX0 hown hK.1 hP 0 rfl rfl (by decide) (hG _ mw_72) rfl dX0_endedBy_1 ?_
  refine lv_iconst (v := (-1 : Int32)) hx hb dX0_endedBy_4 (by decide) ?_
  refine lv_icmp_ne (tgt := 13) hx hb dX0_endedBy_5 (by decide) (fun c1 => ?_) (fun c1 => ?_)
  · replace hf := oe hf c1
    refine lv_aload_n hx hb dX0_endedBy_13 rfl (lv_at hl 0 rfl) ?_
    refine p_get (D := (dC, dI)) (ci := 0) (v := .int vballots) (C := RX0) (T := TX0) (N := 8) 0 fX0_0 hx hb hG inlX0 hown hK.1 hP 0 rfl rfl (by decide) (hG _ mw_70) rfl dX0_endedBy_14 ?_
    refine lv_iconst (v := (1 : Int32)) hx hb dX0_endedBy_17 (by decide) ?_
    refine lv_isub hx hb dX0_endedBy_18 ?_
    have hf := osi hf
    exact x_iR hx hb hr hlocks hf dX0_endedBy_19
  · replace hf := ot hf c1
    refine lv_bipush (v := (32 : Int32)) hx hb dX0_endedBy_8 (by decide) ?_
    refine lv_goto (tgt := 19) hx hb dX0_endedBy_10 (by decide) ?_
    have hf := osi hf
    exact x_iR hx hb hr hlocks hf dX0_endedBy_19
def f_X0_restart (N : Nat) (vwrote : Nat → Int32) (vcounts : Nat → Int32) : Option (Int32 × Int32 × Int32 × Int32 × Int32 × (Nat → Int32) × (Nat → Int32)) := ((f_J7_fill_53178 N 6 vwrote (-1 : Int32)).bind (fun u1 => ((f_J7_fill_53178 N 5 vcounts (0 : Int32)).bind (fun u2 => some ((0 : Int32), (0 : Int32), (-1 : Int32), (-1 : Int32), (0 : Int32), u1, u2)))))
def w_X0_restart (cI cJ cB : ClassId) (q_this q_wrote q_writes q_counts : Nat) (vballots : Int32) (vused : Int32) (vchosen : Int32) (vwaiter : Int32) (vwait : Int32) (vwrote : Nat → Int32) (vcounts : Nat → Int32) : va_W := [(q_this, .inr (0, [.int vballots, .int vused, .int vchosen, .int vwaiter, .int vwait, .ref q_wrote, .ref q_writes, .ref q_counts])), (q_wrote, .inl (cI, 6, .inl vwrote)), (q_counts, .inl (cI, 5, .inl vcounts))]
set_option maxHeartbeats 4000000 in
set_option maxRecDepth 100000 in
theorem c_X0_restart (l : Launch) (dC : Nat → ClassId) (dI : Nat → Nat → Nat) (cI cJ cB : ClassId) (q_this q_wrote q_writes q_counts : Nat) (vballots : Int32) (vused : Int32) (vchosen : Int32) (vwaiter : Int32) (vwait : Int32) (vwrote : Nat → Int32) (vcounts : Nat → Int32) (sz : Nat) {N : Nat} {r : Int32 × Int32 × Int32 × Int32 × Int32 × (Nat → Int32) × (Nat → Int32)} (hf : f_X0_restart N vwrote vcounts = some r) : Met l yX0_restart (Cond.code yX0_restart cX0_restart 1 none :: wsL_law) (kR 1) (va_Pc [.ref q_this] (pW (dC, dI) cI cJ cB (w_X0_restart cI cJ cB q_this q_wrote q_writes q_counts vballots vused vchosen vwaiter vwait vwrote vcounts) sz)) (qWv (fun w => w = (w_X0_restart cI cJ cB q_this q_wrote q_writes q_counts r.1 r.2.1 r.2.2.1 r.2.2.2.1 r.2.2.2.2.1 r.2.2.2.2.2.1 r.2.2.2.2.2.2)) (dC, dI) (va_A (w_X0_restart cI cJ cB q_this q_wrote q_writes q_counts vballots vused vchosen vwaiter vwait vwrote vcounts) sz)) 0 0 (va_A (w_X0_restart cI cJ cB q_this q_wrote q_writes q_counts vballots vused vchosen vwaiter vwait vwrote vcounts) sz) := by
  refine k_wr (Qc := fun A => (qWv (fun w => w = (w_X0_restart cI cJ cB q_this q_wrote q_writes q_counts r.1 r.2.1 r.2.2.1 r.2.2.2.1 r.2.2.2.2.1 r.2.2.2.2.2.1 r.2.2.2.2.2.2)) (dC, dI) A)) (cc := cX0_restart) (n := 1) (ret := none) (by decide) (Nat.le_of_ble_eq_true rfl) ?_
  intro p e s m args below meth c ls A hx hb hr hml hts hown hlocks hnm hA hK hP hD hS hl
  have hD : va_D A [(q_this, .inr (0, [.int vballots, .int vused, .int vchosen, .int vwaiter, .int vwait, .ref q_wrote, .ref q_writes, .ref q_counts])), (q_wrote, .inl (cI, 6, .inl vwrote)), (q_counts, .inl (cI, 5, .inl vcounts))] := hD
  have hP : va_P (dC, dI) classes [(q_this, .inr (0, [.int vballots, .int vused, .int vchosen, .int vwaiter, .int vwait, .ref q_wrote, .ref q_writes, .ref q_counts])), (q_wrote, .inl (cI, 6, .inl vwrote)), (q_counts, .inl (cI, 5, .inl vcounts))] s.heap := hP
  have hG : ∀ w ∈ wsL_law, w.before args s = true := fun w h => hts w (List.mem_cons_of_mem _ h)
  have hown : s.vm.findClass RX0 = some m.cls := hown
  have hl : lv_has ls 1 [(0, .ref q_this)] := hl
  unfold f_X0_restart at hf
  refine lv_aload_n hx hb dX0_restart_0 rfl (lv_at hl 0 rfl) ?_
  refine lv_iconst (v := (0 : Int32)) hx hb dX0_restart_1 (by decide) ?_
  refine p_put (D := (dC, dI)) (ci := 0) (v := .int (0 : Int32)) (ty := .int) (C := RX0) (T := TX0) (N := 8) 0 fX0_0 hx hb hG inlX0 tyX0 tyX0_ok nmX0 hown hK.1 hP hD hS 0 rfl rfl (by decide) (hG _ mw_70) rfl (by decide +kernel) rfl rfl (Nat.le_of_ble_eq_true rfl) dX0_restart_2 (fun H locs hP hD hS => ?_)
  have hP : va_P (dC, dI) classes [(q_this, .inr (0, [.int (0 : Int32), .int vused, .int vchosen, .int vwaiter, .int vwait, .ref q_wrote, .ref q_writes, .ref q_counts])), (q_wrote, .inl (cI, 6, .inl vwrote)), (q_counts, .inl (cI, 5, .inl vcounts))] H := hP
  have hD : va_D A [(q_this, .inr (0, [.int (0 : Int32), .int vused, .int vchosen, .int vwaiter, .int vwait, .ref q_wrote, .ref q_writes, .ref q_counts])), (q_wrote, .inl (cI, 6, .inl vwrote)), (q_counts, .inl (cI, 5, .inl vcounts))] := hD
  refine lv_aload_n hx hb dX0_restart_5 rfl (lv_at hl 0 rfl) ?_
  refine lv_iconst (v := (0 : Int32)) hx hb dX0_restart_6 (by decide) ?_
  refine p_put (D := (dC, dI)) (ci := 0) (v := .int (0 : Int32)) (ty := .int) (C := RX0) (T := TX0) (N := 8) 1 fX0_1 hx hb hG inlX0 tyX0 tyX0_ok nmX0 hown hK.1 hP hD hS 0 rfl rfl (by decide) (hG _ mw_71) rfl (by decide +kernel) rfl rfl (Nat.le_of_ble_eq_true rfl) dX0_restart_7 (fun H locs hP hD hS => ?_)
  have hP : va_P (dC, dI) classes [(q_this, .inr (0, [.int (0 : Int32), .int (0 : Int32), .int vchosen, .int vwaiter, .int vwait, .ref q_wrote, .ref q_writes, .ref q_counts])), (q_wrote, .inl (cI, 6, .inl vwrote)), (q_counts, .inl (cI, 5, .inl vcounts))] H := hP
  have hD : va_D A [(q_this, .inr (0, [.int (0 : Int32), .int (0 : Int32), .int vchosen, .int vwaiter, .int vwait, .ref q_wrote, .ref q_writes, .ref q_counts])), (q_wrote, .inl (cI, 6, .inl vwrote)), (q_counts, .inl (cI, 5, .inl vcounts))] := hD
  refine lv_aload_n hx hb dX0_restart_10 rfl (lv_at hl 0 rfl) ?_
  refine lv_iconst (v := (-1 : Int32)) hx hb dX0_restart_11 (by decide) ?_
  refine p_put (D := (dC, dI)) (ci := 0) (v := .int (-1 : Int32)) (ty := .int) (C := RX0) (T := TX0) (N := 8) 2 fX0_2 hx hb hG inlX0 tyX0 tyX0_ok nmX0 hown hK.1 hP hD hS 0 rfl rfl (by decide) (hG _ mw_72) rfl (by decide +kernel) rfl rfl (Nat.le_of_ble_eq_true rfl) dX0_restart_12 (fun H locs hP hD hS => ?_)
  have hP : va_P (dC, dI) classes [(q_this, .inr (0, [.int (0 : Int32), .int (0 : Int32), .int (-1 : Int32), .int vwaiter, .int vwait, .ref q_wrote, .ref q_writes, .ref q_counts])), (q_wrote, .inl (cI, 6, .inl vwrote)), (q_counts, .inl (cI, 5, .inl vcounts))] H := hP
  have hD : va_D A [(q_this, .inr (0, [.int (0 : Int32), .int (0 : Int32), .int (-1 : Int32), .int vwaiter, .int vwait, .ref q_wrote, .ref q_writes, .ref q_counts])), (q_wrote, .inl (cI, 6, .inl vwrote)), (q_counts, .inl (cI, 5, .inl vcounts))] := hD
  refine lv_aload_n hx hb dX0_restart_15 rfl (lv_at hl 0 rfl) ?_
  refine lv_iconst (v := (-1 : Int32)) hx hb dX0_restart_16 (by decide) ?_
  refine p_put (D := (dC, dI)) (ci := 0) (v := .int (-1 : Int32)) (ty := .int) (C := RX0) (T := TX0) (N := 8) 3 fX0_3 hx hb hG inlX0 tyX0 tyX0_ok nmX0 hown hK.1 hP hD hS 0 rfl rfl (by decide) (hG _ mw_73) rfl (by decide +kernel) rfl rfl (Nat.le_of_ble_eq_true rfl) dX0_restart_17 (fun H locs hP hD hS => ?_)
  have hP : va_P (dC, dI) classes [(q_this, .inr (0, [.int (0 : Int32), .int (0 : Int32), .int (-1 : Int32), .int (-1 : Int32), .int vwait, .ref q_wrote, .ref q_writes, .ref q_counts])), (q_wrote, .inl (cI, 6, .inl vwrote)), (q_counts, .inl (cI, 5, .inl vcounts))] H := hP
  have hD : va_D A [(q_this, .inr (0, [.int (0 : Int32), .int (0 : Int32), .int (-1 : Int32), .int (-1 : Int32), .int vwait, .ref q_wrote, .ref q_writes, .ref q_counts])), (q_wrote, .inl (cI, 6, .inl vwrote)), (q_counts, .inl (cI, 5, .inl vcounts))] := hD
  refine lv_aload_n hx hb dX0_restart_20 rfl (lv_at hl 0 rfl) ?_
  refine lv_iconst (v := (0 : Int32)) hx hb dX0_restart_21 (by decide) ?_
  refine p_put (D := (dC, dI)) (ci := 0) (v := .int (0 : Int32)) (ty := .int) (C := RX0) (T := TX0) (N := 8) 4 fX0_4 hx hb hG inlX0 tyX0 tyX0_ok nmX0 hown hK.1 hP hD hS 0 rfl rfl (by decide) (hG _ mw_74) rfl (by decide +kernel) rfl rfl (Nat.le_of_ble_eq_true rfl) dX0_restart_22 (fun H locs hP hD hS => ?_)
  have hP : va_P (dC, dI) classes [(q_this, .inr (0, [.int (0 : Int32), .int (0 : Int32), .int (-1 : Int32), .int (-1 : Int32), .int (0 : Int32), .ref q_wrote, .ref q_writes, .ref q_counts])), (q_wrote, .inl (cI, 6, .inl vwrote)), (q_counts, .inl (cI, 5, .inl vcounts))] H := hP
  have hD : va_D A [(q_this, .inr (0, [.int (0 : Int32), .int (0 : Int32), .int (-1 : Int32), .int (-1 : Int32), .int (0 : Int32), .ref q_wrote, .ref q_writes, .ref q_counts])), (q_wrote, .inl (cI, 6, .inl vwrote)), (q_counts, .inl (cI, 5, .inl vcounts))] := hD
  refine lv_aload_n hx hb dX0_restart_25 rfl (lv_at hl 0 rfl) ?_
  refine p_get (D := (dC, dI)) (ci := 0) (v := .ref q_wrote) (C := RX0) (T := TX0) (N := 8) 5 fX0_5 hx hb hG inlX0 hown hK.1 hP 0 rfl rfl (by decide) (hG _ mw_75) rfl dX0_restart_26 ?_
  refine lv_iconst (v := (-1 : Int32)) hx hb dX0_restart_29 (by decide) ?_
  obtain ⟨u1, hu1, hf⟩ := ob hf
  refine k_SWv (As := [.ref q_wrote, .int (-1 : Int32)]) (rest := []) (wr := [(q_this, .inr (0, [.int (0 : Int32), .int (0 : Int32), .int (-1 : Int32), .int (-1 : Int32), .int (0 : Int32), .ref q_wrote, .ref q_writes, .ref q_counts])), (q_counts, .inl (cI, 5, .inl vcounts))]) ⟨hx, hb, hml, hown, hts⟩ hK hP hD hS hA [1] [0, 2] rfl rfl (by decide) (by decide) (by decide) (c_J7_fill_53178 l dC dI cI cJ cB q_wrote 6 vwrote (-1 : Int32) _ hu1) (gl_X0_37 hts ⟨(Nat.le_of_ble_eq_true rfl), (Nat.le_of_ble_eq_true rfl)⟩) rfl hl.1 rfl (Nat.le_of_ble_eq_true rfl) dX0_restart_30 ⟨(Nat.le_of_ble_eq_true rfl), (Nat.le_of_ble_eq_true rfl)⟩ (fun w H locs hE hP hD hS => ?_)
  subst hE
  have hP : va_P (dC, dI) classes [(q_this, .inr (0, [.int (0 : Int32), .int (0 : Int32), .int (-1 : Int32), .int (-1 : Int32), .int (0 : Int32), .ref q_wrote, .ref q_writes, .ref q_counts])), (q_counts, .inl (cI, 5, .inl vcounts)), (q_wrote, .inl (cI, 6, .inl u1))] H := hP
  have hD : va_D A [(q_this, .inr (0, [.int (0 : Int32), .int (0 : Int32), .int (-1 : Int32), .int (-1 : Int32), .int (0 : Int32), .ref q_wrote, .ref q_writes, .ref q_counts])), (q_counts, .inl (cI, 5, .inl vcounts)), (q_wrote, .inl (cI, 6, .inl u1))] := hD
  refine lv_aload_n hx hb dX0_restart_33 rfl (lv_at hl 0 rfl) ?_
  refine p_get (D := (dC, dI)) (ci := 0) (v := .ref q_counts) (C := RX0) (T := TX0) (N := 8) 7 fX0_7 hx hb hG inlX0 hown hK.1 hP 0 rfl rfl (by decide) (hG _ mw_77) rfl dX0_restart_34 ?_
  refine lv_iconst (v := (0 : Int32)) hx hb dX0_restart_37 (by decide) ?_
  obtain ⟨u2, hu2, hf⟩ := ob hf
  refine k_SWv (As := [.ref q_counts, .int (0 : Int32)]) (rest := []) (wr := [(q_this, .inr (0, [.int (0 : Int32), .int (0 : Int32), .int (-1 : Int32), .int (-1 : Int32), .int (0 : Int32), .ref q_wrote, .ref q_writes, .ref q_counts])), (q_wrote, .inl (cI, 6, .inl u1))]) ⟨hx, hb, hml, hown, hts⟩ hK hP hD hS hA [1] [0, 2] rfl rfl (by decide) (by decide) (by decide) (c_J7_fill_53178 l dC dI cI cJ cB q_counts 5 vcounts (0 : Int32) _ hu2) (gl_X0_37 hts ⟨(Nat.le_of_ble_eq_true rfl), (Nat.le_of_ble_eq_true rfl)⟩) rfl hl.1 rfl (Nat.le_of_ble_eq_true rfl) dX0_restart_38 ⟨(Nat.le_of_ble_eq_true rfl), (Nat.le_of_ble_eq_true rfl)⟩ (fun w H locs hE hP hD hS => ?_)
  subst hE
  have hP : va_P (dC, dI) classes [(q_this, .inr (0, [.int (0 : Int32), .int (0 : Int32), .int (-1 : Int32), .int (-1 : Int32), .int (0 : Int32), .ref q_wrote, .ref q_writes, .ref q_counts])), (q_wrote, .inl (cI, 6, .inl u1)), (q_counts, .inl (cI, 5, .inl u2))] H := hP
  have hD : va_D A [(q_this, .inr (0, [.int (0 : Int32), .int (0 : Int32), .int (-1 : Int32), .int (-1 : Int32), .int (0 : Int32), .ref q_wrote, .ref q_writes, .ref q_counts])), (q_wrote, .inl (cI, 6, .inl u1)), (q_counts, .inl (cI, 5, .inl u2))] := hD
  have hf := osi hf
  exact x_vW hx hb hr hlocks hP hD hS (by have h9 := congrArg (fun z : Int32 × Int32 × Int32 × Int32 × Int32 × (Nat → Int32) × (Nat → Int32) => (w_X0_restart cI cJ cB q_this q_wrote q_writes q_counts z.1 z.2.1 z.2.2.1 z.2.2.2.1 z.2.2.2.2.1 z.2.2.2.2.2.1 z.2.2.2.2.2.2)) hf; exact h9) dX0_restart_41
def f_X0_isOver (vballots : Int32) (vchosen : Int32) : Option (Int32) := (if vchosen = (-1 : Int32) then (if vballots < (32 : Int32) then some (0 : Int32) else some (1 : Int32)) else some (1 : Int32))
def w_X0_isOver (cI cJ cB : ClassId) (q_this q_wrote q_writes q_counts : Nat) (vballots : Int32) (vused : Int32) (vchosen : Int32) (vwaiter : Int32) (vwait : Int32) : va_W := [(q_this, .inr (0, [.int vballots, .int vused, .int vchosen, .int vwaiter, .int vwait, .ref q_wrote, .ref q_writes, .ref q_counts]))]
set_option maxHeartbeats 4000000 in
set_option maxRecDepth 100000 in
theorem c_X0_isOver (l : Launch) (dC : Nat → ClassId) (dI : Nat → Nat → Nat) (cI cJ cB : ClassId) (q_this q_wrote q_writes q_counts : Nat) (vballots : Int32) (vused : Int32) (vchosen : Int32) (vwaiter : Int32) (vwait : Int32) {r : Int32} (hf : f_X0_isOver vballots vchosen = some r) : Met l yX0_isOver (Cond.code yX0_isOver cX0_isOver 1 (some .boolean) :: wsL_law) (kR 0) (va_Pc [.ref q_this] (pR (dC, dI) cI cJ cB (w_X0_isOver cI cJ cB q_this q_wrote q_writes q_counts vballots vused vchosen vwaiter vwait))) (qRi r) 0 0 (fun _ => False) := by
  refine k_ro (cc := cX0_isOver) (n := 1) (ret := (some .boolean)) (by decide) (Nat.le_of_ble_eq_true rfl) ?_
  intro p e s m args below meth c ls hx hb hr hml hts hown hlocks hK hP hl
  have hP : va_P (dC, dI) classes [(q_this, .inr (0, [.int vballots, .int vused, .int vchosen, .int vwaiter, .int vwait, .ref q_wrote, .ref q_writes, .ref q_counts]))] s.heap := hP
  have hG : ∀ w ∈ wsL_law, w.before args s = true := fun w h => hts w (List.mem_cons_of_mem _ h)
  have hown : s.vm.findClass RX0 = some m.cls := hown
  have hl : lv_has ls 1 [(0, .ref q_this)] := hl
  unfold f_X0_isOver at hf
  refine lv_aload_n hx hb dX0_isOver_0 rfl (lv_at hl 0 rfl) ?_
  refine p_get (D := (dC, dI)) (ci := 0) (v := .int vchosen) (C := RX0) (T := TX0) (N := 8) 2 fX0_2 hx hb hG inlX0 hown hK.1 hP 0 rfl rfl (by decide) (hG _ mw_72) rfl dX0_isOver_1 ?_
  refine lv_iconst (v := (-1 : Int32)) hx hb dX0_isOver_4 (by decide) ?_
  refine lv_icmp_ne (tgt := 17) hx hb dX0_isOver_5 (by decide) (fun c1 => ?_) (fun c1 => ?_)
  · replace hf := oe hf c1
    refine lv_iconst (v := (1 : Int32)) hx hb dX0_isOver_17 (by decide) ?_
    refine lv_goto (tgt := 22) hx hb dX0_isOver_18 (by decide) ?_
    have hf := osi hf
    exact x_zR hx hb hr hlocks rfl hf dX0_isOver_22
  · replace hf := ot hf c1
    refine lv_aload_n hx hb dX0_isOver_8 rfl (lv_at hl 0 rfl) ?_
    refine p_get (D := (dC, dI)) (ci := 0) (v := .int vballots) (C := RX0) (T := TX0) (N := 8) 0 fX0_0 hx hb hG inlX0 hown hK.1 hP 0 rfl rfl (by decide) (hG _ mw_70) rfl dX0_isOver_9 ?_
    refine lv_bipush (v := (32 : Int32)) hx hb dX0_isOver_12 (by decide) ?_
    refine lv_icmp_lt (tgt := 21) hx hb dX0_isOver_14 (by decide) (fun c2 => ?_) (fun c2 => ?_)
    · replace hf := ot hf c2
      refine lv_iconst (v := (0 : Int32)) hx hb dX0_isOver_21 (by decide) ?_
      have hf := osi hf
      exact x_zR hx hb hr hlocks rfl hf dX0_isOver_22
    · replace hf := oe hf c2
      refine lv_iconst (v := (1 : Int32)) hx hb dX0_isOver_17 (by decide) ?_
      refine lv_goto (tgt := 22) hx hb dX0_isOver_18 (by decide) ?_
      have hf := osi hf
      exact x_zR hx hb hr hlocks rfl hf dX0_isOver_22
def f_X0_lastName_L45 (x3 : Int32) (x1 : Int32) (x2 : Int32) : Option ((Int32 × Int32 × Int32) ⊕ (Int32 × Int32 × Int32)) := some (.inl (x1, x2, (x3 + (1 : Int32))))
def f_X0_lastName_L43 (x3 : Int32) (x2 : Int32) : Option ((Int32 × Int32 × Int32) ⊕ (Int32 × Int32 × Int32)) := (f_X0_lastName_L45 x3 x3 x2)
def f_X0_lastName_B6 (vcounts : Nat → Int32) (x1 : Int32) (x2 : Int32) (x3 : Int32) : Option ((Int32 × Int32 × Int32) ⊕ (Int32 × Int32 × Int32)) := (if (5 : Int32) ≤ x3 then some (.inr (x1, x2, x3)) else (if x3 < 0 ∨ 5 ≤ x3.toNatClampNeg then none else (if (vcounts x3.toNatClampNeg) ≤ 0 then (f_X0_lastName_L45 x3 x1 x2) else (if x1 = (-1 : Int32) then (f_X0_lastName_L43 x3 (x2 + (1 : Int32))) else (if x1 < 0 ∨ 5 ≤ x1.toNatClampNeg then none else (if (vcounts x1.toNatClampNeg) ≤ (vcounts x3.toNatClampNeg) then (f_X0_lastName_L45 x3 x1 (x2 + (1 : Int32))) else (f_X0_lastName_L43 x3 (x2 + (1 : Int32)))))))))
def f_X0_lastName (N : Nat) (vcounts : Nat → Int32) : Option (Int32) := ((lp (fun s => f_X0_lastName_B6 vcounts s.1 s.2.1 s.2.2) N ((-1 : Int32), (0 : Int32), (0 : Int32))).bind (fun e7 => (if e7.2.1 ≤ (1 : Int32) then some (-1 : Int32) else some e7.1)))
def w_X0_lastName (cI cJ cB : ClassId) (q_this q_wrote q_writes q_counts : Nat) (vballots : Int32) (vused : Int32) (vchosen : Int32) (vwaiter : Int32) (vwait : Int32) (vcounts : Nat → Int32) : va_W := [(q_this, .inr (0, [.int vballots, .int vused, .int vchosen, .int vwaiter, .int vwait, .ref q_wrote, .ref q_writes, .ref q_counts])), (q_counts, .inl (cI, 5, .inl vcounts))]
set_option maxHeartbeats 4000000 in
set_option maxRecDepth 100000 in
theorem c_X0_lastName (l : Launch) (dC : Nat → ClassId) (dI : Nat → Nat → Nat) (cI cJ cB : ClassId) (q_this q_wrote q_writes q_counts : Nat) (vballots : Int32) (vused : Int32) (vchosen : Int32) (vwaiter : Int32) (vwait : Int32) (vcounts : Nat → Int32) {N : Nat} {r : Int32} (hf : f_X0_lastName N vcounts = some r) : Met l yX0_lastName (Cond.code yX0_lastName cX0_lastName 4 (some .int) :: wsL_law) (kR 0) (va_Pc [.ref q_this] (pR (dC, dI) cI cJ cB (w_X0_lastName cI cJ cB q_this q_wrote q_writes q_counts vballots vused vchosen vwaiter vwait vcounts))) (qRi r) 0 0 (fun _ => False) := by
  refine k_ro (cc := cX0_lastName) (n := 4) (ret := (some .int)) (by decide) (Nat.le_of_ble_eq_true rfl) ?_
  intro p e s m args below meth c ls hx hb hr hml hts hown hlocks hK hP hl
  have hP : va_P (dC, dI) classes [(q_this, .inr (0, [.int vballots, .int vused, .int vchosen, .int vwaiter, .int vwait, .ref q_wrote, .ref q_writes, .ref q_counts])), (q_counts, .inl (cI, 5, .inl vcounts))] s.heap := hP
  have hG : ∀ w ∈ wsL_law, w.before args s = true := fun w h => hts w (List.mem_cons_of_mem _ h)
  have hown : s.vm.findClass RX0 = some m.cls := hown
  have hl : lv_has ls 4 [(0, .ref q_this)] := hl
  unfold f_X0_lastName at hf
  have hL6 : ∀ (n : Nat) (x1 : Int32) (x2 : Int32) (x3 : Int32) (res6 : Int32 × Int32 × Int32), lp (fun s => f_X0_lastName_B6 vcounts s.1 s.2.1 s.2.2) n (x1, x2, x3) = some res6 → ∀ (ls : Array Slot), lv_has ls 4 [(0, .ref q_this), (1, .int x1), (2, .int x2), (3, .int x3)] → (∀ (ls : Array Slot), lv_has ls 4 [(1, .int res6.1), (2, .int res6.2.1)] → W p l e (kR 0) s m args below meth c s.heap [] 0 0 (MQ below (qRi r) args s 0 0 (fun _ => False)) (F0 m 51 ls [])) → W p l e (kR 0) s m args below meth c s.heap [] 0 0 (MQ below (qRi r) args s 0 0 (fun _ => False)) (F0 m 6 ls []) := by
    intro n
    induction n with
    | zero => intro x1 x2 x3 res6 h9; exact (lp_zero h9).elim
    | succ n ih =>
      intro x1 x2 x3 res6 h9 ls hl K
      obtain ⟨o6, hf, hnext, hexit⟩ := lp_succ h9
      have hf : f_X0_lastName_B6 vcounts x1 x2 x3 = some o6 := hf
      unfold f_X0_lastName_B6 at hf
      have hJ45 : ∀ (x1 : Int32) (x2 : Int32), f_X0_lastName_L45 x3 x1 x2 = some o6 → ∀ (ls : Array Slot), lv_has ls 4 [(0, .ref q_this), (1, .int x1), (2, .int x2), (3, .int x3)] → W p l e (kR 0) s m args below meth c s.heap [] 0 0 (MQ below (qRi r) args s 0 0 (fun _ => False)) (F0 m 45 ls []) := by
        intro x1 x2 hf ls hl
        unfold f_X0_lastName_L45 at hf
        refine lv_iinc (v := (x3 + (1 : Int32))) (lv' := [(3, .int (x3 + (1 : Int32))), (0, .ref q_this), (1, .int x1), (2, .int x2)]) hx hb dX0_lastName_45 hl (k := 3) rfl rfl (by decide) rfl (fun ls hl => ?_)
        refine lv_goto (tgt := 6) hx hb dX0_lastName_48 (by decide) ?_
        exact ih x1 x2 (x3 + (1 : Int32)) res6 (hnext _ (osi hf).symm) ls (lv_sub hl [1, 2, 3, 0] rfl) K
      have hJ43 : ∀ (x2 : Int32), f_X0_lastName_L43 x3 x2 = some o6 → ∀ (ls : Array Slot), lv_has ls 4 [(0, .ref q_this), (2, .int x2), (3, .int x3)] → W p l e (kR 0) s m args below meth c s.heap [] 0 0 (MQ below (qRi r) args s 0 0 (fun _ => False)) (F0 m 43 ls []) := by
        intro x2 hf ls hl
        unfold f_X0_lastName_L43 at hf
        refine lv_iload_n hx hb dX0_lastName_43 rfl (lv_at hl 2 rfl) ?_
        refine lv_istore_n (lv' := [(1, .int x3), (0, .ref q_this), (2, .int x2), (3, .int x3)]) hx hb dX0_lastName_44 rfl hl (by decide) rfl (fun ls hl => ?_)
        exact hJ45 x3 x2 hf ls (lv_sub hl [1, 0, 2, 3] rfl)
      refine lv_iload_n hx hb dX0_lastName_6 rfl (lv_at hl 3 rfl) ?_
      refine lv_iconst (v := (5 : Int32)) hx hb dX0_lastName_7 (by decide) ?_
      refine lv_icmp_ge (tgt := 51) hx hb dX0_lastName_8 (by decide) (fun c1 => ?_) (fun c1 => ?_)
      · replace hf := ot hf c1
        have hf := hexit _ (osi hf).symm
        subst hf
        exact K  ls (lv_sub hl [1, 2] rfl)
      · replace hf := oe hf c1
        refine lv_aload_n hx hb dX0_lastName_11 rfl (lv_at hl 0 rfl) ?_
        refine p_get (D := (dC, dI)) (ci := 0) (v := .ref q_counts) (C := RX0) (T := TX0) (N := 8) 7 fX0_7 hx hb hG inlX0 hown hK.1 hP 0 rfl rfl (by decide) (hG _ mw_77) rfl dX0_lastName_12 ?_
        refine lv_iload_n hx hb dX0_lastName_15 rfl (lv_at hl 3 rfl) ?_
        obtain ⟨g2, hf⟩ := og hf
        refine va_iald hx hb hK.1 hP 1 0 rfl rfl g2 dX0_lastName_16 ?_
        refine lv_if_le (tgt := 45) hx hb dX0_lastName_17 (by decide) (fun c3 => ?_) (fun c3 => ?_)
        · replace hf := ot hf c3
          exact hJ45 x1 x2 hf ls (lv_sub hl [0, 1, 2, 3] rfl)
        · replace hf := oe hf c3
          refine lv_iinc (v := (x2 + (1 : Int32))) (lv' := [(2, .int (x2 + (1 : Int32))), (0, .ref q_this), (1, .int x1), (3, .int x3)]) hx hb dX0_lastName_20 hl (k := 2) rfl rfl (by decide) rfl (fun ls hl => ?_)
          refine lv_iload_n hx hb dX0_lastName_23 rfl (lv_at hl 2 rfl) ?_
          refine lv_iconst (v := (-1 : Int32)) hx hb dX0_lastName_24 (by decide) ?_
          refine lv_icmp_eq (tgt := 43) hx hb dX0_lastName_25 (by decide) (fun c4 => ?_) (fun c4 => ?_)
          · replace hf := ot hf c4
            exact hJ43 (x2 + (1 : Int32)) hf ls (lv_sub hl [1, 0, 3] rfl)
          · replace hf := oe hf c4
            refine lv_aload_n hx hb dX0_lastName_28 rfl (lv_at hl 1 rfl) ?_
            refine p_get (D := (dC, dI)) (ci := 0) (v := .ref q_counts) (C := RX0) (T := TX0) (N := 8) 7 fX0_7 hx hb hG inlX0 hown hK.1 hP 0 rfl rfl (by decide) (hG _ mw_77) rfl dX0_lastName_29 ?_
            refine lv_iload_n hx hb dX0_lastName_32 rfl (lv_at hl 3 rfl) ?_
            refine va_iald hx hb hK.1 hP 1 0 rfl rfl g2 dX0_lastName_33 ?_
            refine lv_aload_n hx hb dX0_lastName_34 rfl (lv_at hl 1 rfl) ?_
            refine p_get (D := (dC, dI)) (ci := 0) (v := .ref q_counts) (C := RX0) (T := TX0) (N := 8) 7 fX0_7 hx hb hG inlX0 hown hK.1 hP 0 rfl rfl (by decide) (hG _ mw_77) rfl dX0_lastName_35 ?_
            refine lv_iload_n hx hb dX0_lastName_38 rfl (lv_at hl 2 rfl) ?_
            obtain ⟨g5, hf⟩ := og hf
            refine va_iald hx hb hK.1 hP 1 0 rfl rfl g5 dX0_lastName_39 ?_
            refine lv_icmp_ge (tgt := 45) hx hb dX0_lastName_40 (by decide) (fun c6 => ?_) (fun c6 => ?_)
            · replace hf := ot hf c6
              exact hJ45 x1 (x2 + (1 : Int32)) hf ls (lv_sub hl [1, 2, 0, 3] rfl)
            · replace hf := oe hf c6
              exact hJ43 (x2 + (1 : Int32)) hf ls (lv_sub hl [1, 0, 3] rfl)
  refine lv_iconst (v := (-1 : Int32)) hx hb dX0_lastName_0 (by decide) ?_
  refine lv_istore_n (lv' := [(1, .int (-1 : Int32)), (0, .ref q_this)]) hx hb dX0_lastName_1 rfl hl (by decide) rfl (fun ls hl => ?_)
  refine lv_iconst (v := (0 : Int32)) hx hb dX0_lastName_2 (by decide) ?_
  refine lv_istore_n (lv' := [(2, .int (0 : Int32)), (1, .int (-1 : Int32)), (0, .ref q_this)]) hx hb dX0_lastName_3 rfl hl (by decide) rfl (fun ls hl => ?_)
  refine lv_iconst (v := (0 : Int32)) hx hb dX0_lastName_4 (by decide) ?_
  refine lv_istore_n (lv' := [(3, .int (0 : Int32)), (2, .int (0 : Int32)), (1, .int (-1 : Int32)), (0, .ref q_this)]) hx hb dX0_lastName_5 rfl hl (by decide) rfl (fun ls hl => ?_)
  obtain ⟨e7, hp7, hf⟩ := ob hf
  refine hL6 N (-1 : Int32) (0 : Int32) (0 : Int32) e7 hp7 ls (lv_sub hl [3, 2, 1, 0] rfl) (fun  ls hl => ?_)
  have hl : lv_has ls 4 [(1, .int e7.1), (2, .int e7.2.1)] := hl
  refine lv_iload_n hx hb dX0_lastName_51 rfl (lv_at hl 1 rfl) ?_
  refine lv_iconst (v := (1 : Int32)) hx hb dX0_lastName_52 (by decide) ?_
  refine lv_icmp_le (tgt := 60) hx hb dX0_lastName_53 (by decide) (fun c8 => ?_) (fun c8 => ?_)
  · replace hf := ot hf c8
    refine lv_iconst (v := (-1 : Int32)) hx hb dX0_lastName_60 (by decide) ?_
    have hf := osi hf
    exact x_iR hx hb hr hlocks hf dX0_lastName_61
  · replace hf := oe hf c8
    refine lv_iload_n hx hb dX0_lastName_56 rfl (lv_at hl 0 rfl) ?_
    refine lv_goto (tgt := 61) hx hb dX0_lastName_57 (by decide) ?_
    have hf := osi hf
    exact x_iR hx hb hr hlocks hf dX0_lastName_61
def f_X0_tally_L50 (x2 : Int32) (vcounts : Nat → Int32) : Option ((Int32 × (Nat → Int32)) ⊕ ((Nat → Int32))) := some (.inl ((x2 + (1 : Int32)), vcounts))
def f_X0_tally_B10 (vwrote : Nat → Int32) (vp1_blocks : Int32) (vp1_members : Nat → Int32) (x2 : Int32) (vcounts : Nat → Int32) : Option ((Int32 × (Nat → Int32)) ⊕ ((Nat → Int32))) := (if vp1_blocks ≤ x2 then some (.inr vcounts) else (if x2 < 0 ∨ 6 ≤ x2.toNatClampNeg then none else ((f_X6_isName (vwrote x2.toNatClampNeg)).bind (fun u3 => (if u3 = 0 then (f_X0_tally_L50 x2 vcounts) else (if (vwrote x2.toNatClampNeg) < 0 ∨ 5 ≤ (vwrote x2.toNatClampNeg).toNatClampNeg then none else (f_X0_tally_L50 x2 (upd vcounts (vwrote x2.toNatClampNeg).toNatClampNeg ((vcounts (vwrote x2.toNatClampNeg).toNatClampNeg) + (vp1_members x2.toNatClampNeg))))))))))
def f_X0_tally (N : Nat) (vwrote : Nat → Int32) (vcounts : Nat → Int32) (vp1_blocks : Int32) (vp1_members : Nat → Int32) : Option ((Nat → Int32)) := ((f_J7_fill_53178 N 5 vcounts (0 : Int32)).bind (fun u6 => ((lp (fun s => f_X0_tally_B10 vwrote vp1_blocks vp1_members s.1 s.2) N ((0 : Int32), u6)).bind (fun e7 => some e7))))
def w_X0_tally (cI cJ cB : ClassId) (q_this q_p1 q_wrote q_writes q_counts q_p1_members q_p1_moves q_p1_digits q_p1_sizes q_p1_orders q_p1_above q_p1_below q_p1_struck q_p1_lots : Nat) (vballots : Int32) (vused : Int32) (vchosen : Int32) (vwaiter : Int32) (vwait : Int32) (vwrote : Nat → Int32) (vcounts : Nat → Int32) (vp1_blocks : Int32) (vp1_members : Nat → Int32) : va_W := [(q_this, .inr (0, [.int vballots, .int vused, .int vchosen, .int vwaiter, .int vwait, .ref q_wrote, .ref q_writes, .ref q_counts])), (q_wrote, .inl (cI, 6, .inl vwrote)), (q_counts, .inl (cI, 5, .inl vcounts)), (q_p1, .inr (5, [.int vp1_blocks, .ref q_p1_members, .ref q_p1_moves, .ref q_p1_digits, .ref q_p1_sizes, .ref q_p1_orders, .ref q_p1_above, .ref q_p1_below, .ref q_p1_struck, .ref q_p1_lots])), (q_p1_members, .inl (cI, 6, .inl vp1_members))]
set_option maxHeartbeats 4000000 in
set_option maxRecDepth 100000 in
theorem c_X0_tally (l : Launch) (dC : Nat → ClassId) (dI : Nat → Nat → Nat) (cI cJ cB : ClassId) (q_this q_p1 q_wrote q_writes q_counts q_p1_members q_p1_moves q_p1_digits q_p1_sizes q_p1_orders q_p1_above q_p1_below q_p1_struck q_p1_lots : Nat) (vballots : Int32) (vused : Int32) (vchosen : Int32) (vwaiter : Int32) (vwait : Int32) (vwrote : Nat → Int32) (vcounts : Nat → Int32) (vp1_blocks : Int32) (vp1_members : Nat → Int32) (sz : Nat) {N : Nat} {r : (Nat → Int32)} (hf : f_X0_tally N vwrote vcounts vp1_blocks vp1_members = some r) : Met l yX0_tally (Cond.code yX0_tally cX0_tally 3 none :: wsL_law) (kR 1) (va_Pc [.ref q_this, .ref q_p1] (pW (dC, dI) cI cJ cB (w_X0_tally cI cJ cB q_this q_p1 q_wrote q_writes q_counts q_p1_members q_p1_moves q_p1_digits q_p1_sizes q_p1_orders q_p1_above q_p1_below q_p1_struck q_p1_lots vballots vused vchosen vwaiter vwait vwrote vcounts vp1_blocks vp1_members) sz)) (qWv (fun w => w = (w_X0_tally cI cJ cB q_this q_p1 q_wrote q_writes q_counts q_p1_members q_p1_moves q_p1_digits q_p1_sizes q_p1_orders q_p1_above q_p1_below q_p1_struck q_p1_lots vballots vused vchosen vwaiter vwait vwrote r vp1_blocks vp1_members)) (dC, dI) (va_A (w_X0_tally cI cJ cB q_this q_p1 q_wrote q_writes q_counts q_p1_members q_p1_moves q_p1_digits q_p1_sizes q_p1_orders q_p1_above q_p1_below q_p1_struck q_p1_lots vballots vused vchosen vwaiter vwait vwrote vcounts vp1_blocks vp1_members) sz)) 0 0 (va_A (w_X0_tally cI cJ cB q_this q_p1 q_wrote q_writes q_counts q_p1_members q_p1_moves q_p1_digits q_p1_sizes q_p1_orders q_p1_above q_p1_below q_p1_struck q_p1_lots vballots vused vchosen vwaiter vwait vwrote vcounts vp1_blocks vp1_members) sz) := by
  refine k_wr (Qc := fun A => (qWv (fun w => w = (w_X0_tally cI cJ cB q_this q_p1 q_wrote q_writes q_counts q_p1_members q_p1_moves q_p1_digits q_p1_sizes q_p1_orders q_p1_above q_p1_below q_p1_struck q_p1_lots vballots vused vchosen vwaiter vwait vwrote r vp1_blocks vp1_members)) (dC, dI) A)) (cc := cX0_tally) (n := 3) (ret := none) (by decide) (Nat.le_of_ble_eq_true rfl) ?_
  intro p e s m args below meth c ls A hx hb hr hml hts hown hlocks hnm hA hK hP hD hS hl
  have hD : va_D A [(q_this, .inr (0, [.int vballots, .int vused, .int vchosen, .int vwaiter, .int vwait, .ref q_wrote, .ref q_writes, .ref q_counts])), (q_wrote, .inl (cI, 6, .inl vwrote)), (q_counts, .inl (cI, 5, .inl vcounts)), (q_p1, .inr (5, [.int vp1_blocks, .ref q_p1_members, .ref q_p1_moves, .ref q_p1_digits, .ref q_p1_sizes, .ref q_p1_orders, .ref q_p1_above, .ref q_p1_below, .ref q_p1_struck, .ref q_p1_lots])), (q_p1_members, .inl (cI, 6, .inl vp1_members))] := hD
  have hP : va_P (dC, dI) classes [(q_this, .inr (0, [.int vballots, .int vused, .int vchosen, .int vwaiter, .int vwait, .ref q_wrote, .ref q_writes, .ref q_counts])), (q_wrote, .inl (cI, 6, .inl vwrote)), (q_counts, .inl (cI, 5, .inl vcounts)), (q_p1, .inr (5, [.int vp1_blocks, .ref q_p1_members, .ref q_p1_moves, .ref q_p1_digits, .ref q_p1_sizes, .ref q_p1_orders, .ref q_p1_above, .ref q_p1_below, .ref q_p1_struck, .ref q_p1_lots])), (q_p1_members, .inl (cI, 6, .inl vp1_members))] s.heap := hP
  have hG : ∀ w ∈ wsL_law, w.before args s = true := fun w h => hts w (List.mem_cons_of_mem _ h)
  have hown : s.vm.findClass RX0 = some m.cls := hown
  have hl : lv_has ls 3 [(0, .ref q_this), (1, .ref q_p1)] := hl
  unfold f_X0_tally at hf
  have hL10 : ∀ (n : Nat) (x2 : Int32) (vcounts : Nat → Int32) (res10 : (Nat → Int32)), lp (fun s => f_X0_tally_B10 vwrote vp1_blocks vp1_members s.1 s.2) n (x2, vcounts) = some res10 → ∀ (H : Heap) (locs : List Loc) (ls : Array Slot), va_P (dC, dI) classes [(q_this, .inr (0, [.int vballots, .int vused, .int vchosen, .int vwaiter, .int vwait, .ref q_wrote, .ref q_writes, .ref q_counts])), (q_wrote, .inl (cI, 6, .inl vwrote)), (q_counts, .inl (cI, 5, .inl vcounts)), (q_p1, .inr (5, [.int vp1_blocks, .ref q_p1_members, .ref q_p1_moves, .ref q_p1_digits, .ref q_p1_sizes, .ref q_p1_orders, .ref q_p1_above, .ref q_p1_below, .ref q_p1_struck, .ref q_p1_lots])), (q_p1_members, .inl (cI, 6, .inl vp1_members))] H → va_D A [(q_this, .inr (0, [.int vballots, .int vused, .int vchosen, .int vwaiter, .int vwait, .ref q_wrote, .ref q_writes, .ref q_counts])), (q_wrote, .inl (cI, 6, .inl vwrote)), (q_counts, .inl (cI, 5, .inl vcounts)), (q_p1, .inr (5, [.int vp1_blocks, .ref q_p1_members, .ref q_p1_moves, .ref q_p1_digits, .ref q_p1_sizes, .ref q_p1_orders, .ref q_p1_above, .ref q_p1_below, .ref q_p1_struck, .ref q_p1_lots])), (q_p1_members, .inl (cI, 6, .inl vp1_members))] → va_S A s.heap H locs → lv_has ls 3 [(0, .ref q_this), (1, .ref q_p1), (2, .int x2)] → (∀ q9 : (Nat → Int32), res10 = q9 → q9 = r) → W p l e (kR 1) s m args below meth c H locs 0 0 (MQ below (qWv (fun w => w = (w_X0_tally cI cJ cB q_this q_p1 q_wrote q_writes q_counts q_p1_members q_p1_moves q_p1_digits q_p1_sizes q_p1_orders q_p1_above q_p1_below q_p1_struck q_p1_lots vballots vused vchosen vwaiter vwait vwrote r vp1_blocks vp1_members)) (dC, dI) A) args s 0 0 A) (F0 m 10 ls []) := by
    intro n
    induction n with
    | zero => intro x2 vcounts res10 h9; exact (lp_zero h9).elim
    | succ n ih =>
      intro x2 vcounts res10 h9 H locs ls hP hD hS hl KR
      obtain ⟨o10, hf, hnext, hexit⟩ := lp_succ h9
      have hf : f_X0_tally_B10 vwrote vp1_blocks vp1_members x2 vcounts = some o10 := hf
      unfold f_X0_tally_B10 at hf
      have hJ50 : ∀ (vcounts : Nat → Int32), f_X0_tally_L50 x2 vcounts = some o10 → ∀ (H : Heap) (locs : List Loc) (ls : Array Slot), va_P (dC, dI) classes [(q_this, .inr (0, [.int vballots, .int vused, .int vchosen, .int vwaiter, .int vwait, .ref q_wrote, .ref q_writes, .ref q_counts])), (q_wrote, .inl (cI, 6, .inl vwrote)), (q_counts, .inl (cI, 5, .inl vcounts)), (q_p1, .inr (5, [.int vp1_blocks, .ref q_p1_members, .ref q_p1_moves, .ref q_p1_digits, .ref q_p1_sizes, .ref q_p1_orders, .ref q_p1_above, .ref q_p1_below, .ref q_p1_struck, .ref q_p1_lots])), (q_p1_members, .inl (cI, 6, .inl vp1_members))] H → va_D A [(q_this, .inr (0, [.int vballots, .int vused, .int vchosen, .int vwaiter, .int vwait, .ref q_wrote, .ref q_writes, .ref q_counts])), (q_wrote, .inl (cI, 6, .inl vwrote)), (q_counts, .inl (cI, 5, .inl vcounts)), (q_p1, .inr (5, [.int vp1_blocks, .ref q_p1_members, .ref q_p1_moves, .ref q_p1_digits, .ref q_p1_sizes, .ref q_p1_orders, .ref q_p1_above, .ref q_p1_below, .ref q_p1_struck, .ref q_p1_lots])), (q_p1_members, .inl (cI, 6, .inl vp1_members))] → va_S A s.heap H locs → lv_has ls 3 [(0, .ref q_this), (1, .ref q_p1), (2, .int x2)] → W p l e (kR 1) s m args below meth c H locs 0 0 (MQ below (qWv (fun w => w = (w_X0_tally cI cJ cB q_this q_p1 q_wrote q_writes q_counts q_p1_members q_p1_moves q_p1_digits q_p1_sizes q_p1_orders q_p1_above q_p1_below q_p1_struck q_p1_lots vballots vused vchosen vwaiter vwait vwrote r vp1_blocks vp1_members)) (dC, dI) A) args s 0 0 A) (F0 m 50 ls []) := by
        intro vcounts hf H locs ls hP hD hS hl
        unfold f_X0_tally_L50 at hf
        refine lv_iinc (v := (x2 + (1 : Int32))) (lv' := [(2, .int (x2 + (1 : Int32))), (0, .ref q_this), (1, .ref q_p1)]) hx hb dX0_tally_50 hl (k := 2) rfl rfl (by decide) rfl (fun ls hl => ?_)
        refine lv_goto (tgt := 10) hx hb dX0_tally_53 (by decide) ?_
        exact ih (x2 + (1 : Int32)) vcounts res10 (hnext _ (osi hf).symm) _ _ ls hP hD hS (lv_sub hl [1, 2, 0] rfl) KR
      refine lv_iload_n hx hb dX0_tally_10 rfl (lv_at hl 2 rfl) ?_
      refine lv_aload_n hx hb dX0_tally_11 rfl (lv_at hl 1 rfl) ?_
      refine p_get (D := (dC, dI)) (ci := 5) (v := .int vp1_blocks) (C := RX5) (T := TX5) (N := 10) 0 fX5_0 hx hb hG inlX5 hown hK.1 hP 3 rfl rfl (by decide) (hG _ mw_465) rfl dX0_tally_12 ?_
      refine lv_icmp_ge (tgt := 56) hx hb dX0_tally_15 (by decide) (fun c1 => ?_) (fun c1 => ?_)
      · replace hf := ot hf c1
        have hf := KR _ (hexit _ (osi hf).symm).symm
        exact x_vW hx hb hr hlocks hP hD hS (by have h9 := congrArg (fun z : (Nat → Int32) => (w_X0_tally cI cJ cB q_this q_p1 q_wrote q_writes q_counts q_p1_members q_p1_moves q_p1_digits q_p1_sizes q_p1_orders q_p1_above q_p1_below q_p1_struck q_p1_lots vballots vused vchosen vwaiter vwait vwrote z vp1_blocks vp1_members)) hf; exact h9) dX0_tally_56
      · replace hf := oe hf c1
        refine lv_aload_n hx hb dX0_tally_18 rfl (lv_at hl 0 rfl) ?_
        refine p_get (D := (dC, dI)) (ci := 0) (v := .ref q_wrote) (C := RX0) (T := TX0) (N := 8) 5 fX0_5 hx hb hG inlX0 hown hK.1 hP 0 rfl rfl (by decide) (hG _ mw_75) rfl dX0_tally_19 ?_
        refine lv_iload_n hx hb dX0_tally_22 rfl (lv_at hl 2 rfl) ?_
        obtain ⟨g2, hf⟩ := og hf
        refine va_iald hx hb hK.1 hP 1 0 rfl rfl g2 dX0_tally_23 ?_
        obtain ⟨u3, hu3, hf⟩ := ob hf
        refine k_SNi (As := [.int (vwrote x2.toNatClampNeg)]) (rest := []) ⟨hx, hb, hml, hown, hts⟩ hK hP [] rfl (c_X6_isName l dC dI cI cJ cB (vwrote x2.toNatClampNeg) hu3) (gl_X0_126 hts hK.2 ⟨(Nat.le_of_ble_eq_true rfl), (Nat.le_of_ble_eq_true rfl)⟩) rfl hl.1 rfl (Nat.le_of_ble_eq_true rfl) dX0_tally_24 ⟨Nat.zero_le _, Nat.zero_le _⟩ ?_
        refine lv_if_eq (tgt := 50) hx hb dX0_tally_27 (by decide) (fun c4 => ?_) (fun c4 => ?_)
        · replace hf := ot hf c4
          exact hJ50 vcounts hf _ _ ls hP hD hS (lv_sub hl [0, 1, 2] rfl)
        · replace hf := oe hf c4
          refine lv_aload_n hx hb dX0_tally_30 rfl (lv_at hl 0 rfl) ?_
          refine p_get (D := (dC, dI)) (ci := 0) (v := .ref q_counts) (C := RX0) (T := TX0) (N := 8) 7 fX0_7 hx hb hG inlX0 hown hK.1 hP 0 rfl rfl (by decide) (hG _ mw_77) rfl dX0_tally_31 ?_
          refine lv_aload_n hx hb dX0_tally_34 rfl (lv_at hl 0 rfl) ?_
          refine p_get (D := (dC, dI)) (ci := 0) (v := .ref q_wrote) (C := RX0) (T := TX0) (N := 8) 5 fX0_5 hx hb hG inlX0 hown hK.1 hP 0 rfl rfl (by decide) (hG _ mw_75) rfl dX0_tally_35 ?_
          refine lv_iload_n hx hb dX0_tally_38 rfl (lv_at hl 2 rfl) ?_
          refine va_iald hx hb hK.1 hP 1 0 rfl rfl g2 dX0_tally_39 ?_
          refine lv_dup2_11 hx hb dX0_tally_40 rfl rfl ?_
          obtain ⟨g5, hf⟩ := og hf
          refine va_iald hx hb hK.1 hP 2 0 rfl rfl g5 dX0_tally_41 ?_
          refine lv_aload_n hx hb dX0_tally_42 rfl (lv_at hl 1 rfl) ?_
          refine p_get (D := (dC, dI)) (ci := 5) (v := .ref q_p1_members) (C := RX5) (T := TX5) (N := 10) 1 fX5_1 hx hb hG inlX5 hown hK.1 hP 3 rfl rfl (by decide) (hG _ mw_513) rfl dX0_tally_43 ?_
          refine lv_iload_n hx hb dX0_tally_46 rfl (lv_at hl 2 rfl) ?_
          refine va_iald hx hb hK.1 hP 4 0 rfl rfl g2 dX0_tally_47 ?_
          refine lv_iadd hx hb dX0_tally_48 ?_
          refine va_iast hx hb hK.1 hP hD hS 2 0 rfl rfl g5 dX0_tally_49 (fun H locs hP hD hS => ?_)
          have hP : va_P (dC, dI) classes [(q_this, .inr (0, [.int vballots, .int vused, .int vchosen, .int vwaiter, .int vwait, .ref q_wrote, .ref q_writes, .ref q_counts])), (q_wrote, .inl (cI, 6, .inl vwrote)), (q_counts, .inl (cI, 5, .inl (upd vcounts (vwrote x2.toNatClampNeg).toNatClampNeg ((vcounts (vwrote x2.toNatClampNeg).toNatClampNeg) + (vp1_members x2.toNatClampNeg))))), (q_p1, .inr (5, [.int vp1_blocks, .ref q_p1_members, .ref q_p1_moves, .ref q_p1_digits, .ref q_p1_sizes, .ref q_p1_orders, .ref q_p1_above, .ref q_p1_below, .ref q_p1_struck, .ref q_p1_lots])), (q_p1_members, .inl (cI, 6, .inl vp1_members))] H := hP
          have hD : va_D A [(q_this, .inr (0, [.int vballots, .int vused, .int vchosen, .int vwaiter, .int vwait, .ref q_wrote, .ref q_writes, .ref q_counts])), (q_wrote, .inl (cI, 6, .inl vwrote)), (q_counts, .inl (cI, 5, .inl (upd vcounts (vwrote x2.toNatClampNeg).toNatClampNeg ((vcounts (vwrote x2.toNatClampNeg).toNatClampNeg) + (vp1_members x2.toNatClampNeg))))), (q_p1, .inr (5, [.int vp1_blocks, .ref q_p1_members, .ref q_p1_moves, .ref q_p1_digits, .ref q_p1_sizes, .ref q_p1_orders, .ref q_p1_above, .ref q_p1_below, .ref q_p1_struck, .ref q_p1_lots])), (q_p1_members, .inl (cI, 6, .inl vp1_members))] := hD
          exact hJ50 (upd vcounts (vwrote x2.toNatClampNeg).toNatClampNeg ((vcounts (vwrote x2.toNatClampNeg).toNatClampNeg) + (vp1_members x2.toNatClampNeg))) hf _ _ ls hP hD hS (lv_sub hl [0, 1, 2] rfl)
  refine lv_aload_n hx hb dX0_tally_0 rfl (lv_at hl 0 rfl) ?_
  refine p_get (D := (dC, dI)) (ci := 0) (v := .ref q_counts) (C := RX0) (T := TX0) (N := 8) 7 fX0_7 hx hb hG inlX0 hown hK.1 hP 0 rfl rfl (by decide) (hG _ mw_77) rfl dX0_tally_1 ?_
  refine lv_iconst (v := (0 : Int32)) hx hb dX0_tally_4 (by decide) ?_
  obtain ⟨u6, hu6, hf⟩ := ob hf
  refine k_SWv (As := [.ref q_counts, .int (0 : Int32)]) (rest := []) (wr := [(q_this, .inr (0, [.int vballots, .int vused, .int vchosen, .int vwaiter, .int vwait, .ref q_wrote, .ref q_writes, .ref q_counts])), (q_wrote, .inl (cI, 6, .inl vwrote)), (q_p1, .inr (5, [.int vp1_blocks, .ref q_p1_members, .ref q_p1_moves, .ref q_p1_digits, .ref q_p1_sizes, .ref q_p1_orders, .ref q_p1_above, .ref q_p1_below, .ref q_p1_struck, .ref q_p1_lots])), (q_p1_members, .inl (cI, 6, .inl vp1_members))]) ⟨hx, hb, hml, hown, hts⟩ hK hP hD hS hA [2] [0, 1, 3, 4] rfl rfl (by decide) (by decide) (by decide) (c_J7_fill_53178 l dC dI cI cJ cB q_counts 5 vcounts (0 : Int32) _ hu6) (gl_X0_37 hts ⟨(Nat.le_of_ble_eq_true rfl), (Nat.le_of_ble_eq_true rfl)⟩) rfl hl.1 rfl (Nat.le_of_ble_eq_true rfl) dX0_tally_5 ⟨(Nat.le_of_ble_eq_true rfl), (Nat.le_of_ble_eq_true rfl)⟩ (fun w H locs hE hP hD hS => ?_)
  subst hE
  have hP : va_P (dC, dI) classes [(q_this, .inr (0, [.int vballots, .int vused, .int vchosen, .int vwaiter, .int vwait, .ref q_wrote, .ref q_writes, .ref q_counts])), (q_wrote, .inl (cI, 6, .inl vwrote)), (q_p1, .inr (5, [.int vp1_blocks, .ref q_p1_members, .ref q_p1_moves, .ref q_p1_digits, .ref q_p1_sizes, .ref q_p1_orders, .ref q_p1_above, .ref q_p1_below, .ref q_p1_struck, .ref q_p1_lots])), (q_p1_members, .inl (cI, 6, .inl vp1_members)), (q_counts, .inl (cI, 5, .inl u6))] H := hP
  have hD : va_D A [(q_this, .inr (0, [.int vballots, .int vused, .int vchosen, .int vwaiter, .int vwait, .ref q_wrote, .ref q_writes, .ref q_counts])), (q_wrote, .inl (cI, 6, .inl vwrote)), (q_p1, .inr (5, [.int vp1_blocks, .ref q_p1_members, .ref q_p1_moves, .ref q_p1_digits, .ref q_p1_sizes, .ref q_p1_orders, .ref q_p1_above, .ref q_p1_below, .ref q_p1_struck, .ref q_p1_lots])), (q_p1_members, .inl (cI, 6, .inl vp1_members)), (q_counts, .inl (cI, 5, .inl u6))] := hD
  refine lv_iconst (v := (0 : Int32)) hx hb dX0_tally_8 (by decide) ?_
  refine lv_istore_n (lv' := [(2, .int (0 : Int32)), (0, .ref q_this), (1, .ref q_p1)]) hx hb dX0_tally_9 rfl hl (by decide) rfl (fun ls hl => ?_)
  obtain ⟨e7, hp7, hf⟩ := ob hf
  exact hL10 N (0 : Int32) u6 e7 hp7 _ _ ls (hP.sub [0, 1, 4, 2, 3] rfl) (hD.sub [0, 1, 4, 2, 3] (by decide) rfl) hS (lv_sub hl [1, 2, 0] rfl) (fun q9 h9 => by subst h9; exact osi hf)
def f_X0_write_L87 (x6 : Int32) (vwrites : Nat → Int32) : Option ((Int32 × (Nat → Int32)) ⊕ (Int32 × (Nat → Int32))) := some (.inl ((x6 + (1 : Int32)), vwrites))
def f_X0_write_L86 (vwrites : Nat → Int32) (x6 : Int32) (z0 : Int32) (z1 : Int32) : Option ((Int32 × (Nat → Int32)) ⊕ (Int32 × (Nat → Int32))) := (if z1 < 0 ∨ 6 ≤ z1.toNatClampNeg then none else (f_X0_write_L87 x6 (upd vwrites z1.toNatClampNeg z0)))
def f_X0_write_B16 (N : Nat) (vwaiter : Int32) (vwait : Int32) (vwrote : Nat → Int32) (vcounts : Nat → Int32) (vp1_blocks : Int32) (vp1_moves : Nat → Int32) (vp1_digits : Nat → Int32) (vp1_sizes : Nat → Int32) (vp1_orders : Nat → Int32) (x2 : Int32) (x3 : Int32) (x4 : Int32) (x5 : Int32) (x6 : Int32) (vwrites : Nat → Int32) : Option ((Int32 × (Nat → Int32)) ⊕ (Int32 × (Nat → Int32))) := (if vp1_blocks ≤ x6 then some (.inr (x6, vwrites)) else ((f_X0_firmBallot vwaiter vwait x6).bind (fun u3 => (if x2 ≤ u3 then (if x2 = u3 then ((f_X5_firstAlive N vp1_sizes vp1_orders x6 (0 : Int32) x5).bind (fun u6 => (f_X0_write_L86 vwrites x6 u6 x6))) else (f_X0_write_L86 vwrites x6 (-1 : Int32) x6)) else ((f_X0_byMove N vwrote vcounts vp1_moves vp1_digits vp1_sizes vp1_orders x6 x5 x4 x3).bind (fun u7 => (if x6 < 0 ∨ 6 ≤ x6.toNatClampNeg then none else (f_X0_write_L87 x6 (upd vwrites x6.toNatClampNeg u7)))))))))
def f_X0_write (N : Nat) (vwaiter : Int32) (vwait : Int32) (vwrote : Nat → Int32) (vwrites : Nat → Int32) (vcounts : Nat → Int32) (vp1_blocks : Int32) (vp1_members : Nat → Int32) (vp1_moves : Nat → Int32) (vp1_digits : Nat → Int32) (vp1_sizes : Nat → Int32) (vp1_orders : Nat → Int32) (vp1_struck : Nat → Int32) (x2 : Int32) (x3 : Int32) : Option ((Nat → Int32) × (Nat → Int32) × (Nat → Int32)) := ((f_X0_lastName N vcounts).bind (fun u9 => ((f_X5_namesAlive N vp1_struck x2).bind (fun u10 => ((lp (fun s => f_X0_write_B16 N vwaiter vwait vwrote vcounts vp1_blocks vp1_moves vp1_digits vp1_sizes vp1_orders x2 x3 u9 u10 s.1 s.2) N ((0 : Int32), vwrites)).bind (fun e11 => (if vp1_blocks < 0 ∨ 6 < vp1_blocks.toNatClampNeg then none else ((f_X0_tally N (va_cpy e11.2 vwrote (0 : Int32).toNatClampNeg (0 : Int32).toNatClampNeg vp1_blocks.toNatClampNeg) vcounts vp1_blocks vp1_members).bind (fun u13 => some ((va_cpy e11.2 vwrote (0 : Int32).toNatClampNeg (0 : Int32).toNatClampNeg vp1_blocks.toNatClampNeg), e11.2, u13))))))))))
def w_X0_write (cI cJ cB : ClassId) (q_this q_p1 q_wrote q_writes q_counts q_p1_members q_p1_moves q_p1_digits q_p1_sizes q_p1_orders q_p1_above q_p1_below q_p1_struck q_p1_lots : Nat) (vballots : Int32) (vused : Int32) (vchosen : Int32) (vwaiter : Int32) (vwait : Int32) (vwrote : Nat → Int32) (vwrites : Nat → Int32) (vcounts : Nat → Int32) (vp1_blocks : Int32) (vp1_members : Nat → Int32) (vp1_moves : Nat → Int32) (vp1_digits : Nat → Int32) (vp1_sizes : Nat → Int32) (vp1_orders : Nat → Int32) (vp1_struck : Nat → Int32) : va_W := [(q_this, .inr (0, [.int vballots, .int vused, .int vchosen, .int vwaiter, .int vwait, .ref q_wrote, .ref q_writes, .ref q_counts])), (q_wrote, .inl (cI, 6, .inl vwrote)), (q_writes, .inl (cI, 6, .inl vwrites)), (q_counts, .inl (cI, 5, .inl vcounts)), (q_p1, .inr (5, [.int vp1_blocks, .ref q_p1_members, .ref q_p1_moves, .ref q_p1_digits, .ref q_p1_sizes, .ref q_p1_orders, .ref q_p1_above, .ref q_p1_below, .ref q_p1_struck, .ref q_p1_lots])), (q_p1_members, .inl (cI, 6, .inl vp1_members)), (q_p1_moves, .inl (cI, 6, .inl vp1_moves)), (q_p1_digits, .inl (cI, 6, .inl vp1_digits)), (q_p1_sizes, .inl (cI, 6, .inl vp1_sizes)), (q_p1_orders, .inl (cI, 30, .inl vp1_orders)), (q_p1_struck, .inl (cI, 5, .inl vp1_struck))]
set_option maxHeartbeats 4000000 in
set_option maxRecDepth 100000 in
theorem c_X0_write (l : Launch) (dC : Nat → ClassId) (dI : Nat → Nat → Nat) (cI cJ cB : ClassId) (q_this q_p1 q_wrote q_writes q_counts q_p1_members q_p1_moves q_p1_digits q_p1_sizes q_p1_orders q_p1_above q_p1_below q_p1_struck q_p1_lots : Nat) (vballots : Int32) (vused : Int32) (vchosen : Int32) (vwaiter : Int32) (vwait : Int32) (vwrote : Nat → Int32) (vwrites : Nat → Int32) (vcounts : Nat → Int32) (vp1_blocks : Int32) (vp1_members : Nat → Int32) (vp1_moves : Nat → Int32) (vp1_digits : Nat → Int32) (vp1_sizes : Nat → Int32) (vp1_orders : Nat → Int32) (vp1_struck : Nat → Int32) (x2 : Int32) (x3 : Int32) (sz : Nat) {N : Nat} {r : (Nat → Int32) × (Nat → Int32) × (Nat → Int32)} (hf : f_X0_write N vwaiter vwait vwrote vwrites vcounts vp1_blocks vp1_members vp1_moves vp1_digits vp1_sizes vp1_orders vp1_struck x2 x3 = some r) : Met l yX0_write (Cond.code yX0_write cX0_write 8 none :: wsL_law) (kR 3) (va_Pc [.ref q_this, .ref q_p1, .int x2, .int x3] (pW (dC, dI) cI cJ cB (w_X0_write cI cJ cB q_this q_p1 q_wrote q_writes q_counts q_p1_members q_p1_moves q_p1_digits q_p1_sizes q_p1_orders q_p1_above q_p1_below q_p1_struck q_p1_lots vballots vused vchosen vwaiter vwait vwrote vwrites vcounts vp1_blocks vp1_members vp1_moves vp1_digits vp1_sizes vp1_orders vp1_struck) sz)) (qWv (fun w => w = (w_X0_write cI cJ cB q_this q_p1 q_wrote q_writes q_counts q_p1_members q_p1_moves q_p1_digits q_p1_sizes q_p1_orders q_p1_above q_p1_below q_p1_struck q_p1_lots vballots vused vchosen vwaiter vwait r.1 r.2.1 r.2.2 vp1_blocks vp1_members vp1_moves vp1_digits vp1_sizes vp1_orders vp1_struck)) (dC, dI) (va_A (w_X0_write cI cJ cB q_this q_p1 q_wrote q_writes q_counts q_p1_members q_p1_moves q_p1_digits q_p1_sizes q_p1_orders q_p1_above q_p1_below q_p1_struck q_p1_lots vballots vused vchosen vwaiter vwait vwrote vwrites vcounts vp1_blocks vp1_members vp1_moves vp1_digits vp1_sizes vp1_orders vp1_struck) sz)) 0 0 (va_A (w_X0_write cI cJ cB q_this q_p1 q_wrote q_writes q_counts q_p1_members q_p1_moves q_p1_digits q_p1_sizes q_p1_orders q_p1_above q_p1_below q_p1_struck q_p1_lots vballots vused vchosen vwaiter vwait vwrote vwrites vcounts vp1_blocks vp1_members vp1_moves vp1_digits vp1_sizes vp1_orders vp1_struck) sz) := by
  refine k_wr (Qc := fun A => (qWv (fun w => w = (w_X0_write cI cJ cB q_this q_p1 q_wrote q_writes q_counts q_p1_members q_p1_moves q_p1_digits q_p1_sizes q_p1_orders q_p1_above q_p1_below q_p1_struck q_p1_lots vballots vused vchosen vwaiter vwait r.1 r.2.1 r.2.2 vp1_blocks vp1_members vp1_moves vp1_digits vp1_sizes vp1_orders vp1_struck)) (dC, dI) A)) (cc := cX0_write) (n := 8) (ret := none) (by decide) (Nat.le_of_ble_eq_true rfl) ?_
  intro p e s m args below meth c ls A hx hb hr hml hts hown hlocks hnm hA hK hP hD hS hl
  have hD : va_D A [(q_this, .inr (0, [.int vballots, .int vused, .int vchosen, .int vwaiter, .int vwait, .ref q_wrote, .ref q_writes, .ref q_counts])), (q_wrote, .inl (cI, 6, .inl vwrote)), (q_writes, .inl (cI, 6, .inl vwrites)), (q_counts, .inl (cI, 5, .inl vcounts)), (q_p1, .inr (5, [.int vp1_blocks, .ref q_p1_members, .ref q_p1_moves, .ref q_p1_digits, .ref q_p1_sizes, .ref q_p1_orders, .ref q_p1_above, .ref q_p1_below, .ref q_p1_struck, .ref q_p1_lots])), (q_p1_members, .inl (cI, 6, .inl vp1_members)), (q_p1_moves, .inl (cI, 6, .inl vp1_moves)), (q_p1_digits, .inl (cI, 6, .inl vp1_digits)), (q_p1_sizes, .inl (cI, 6, .inl vp1_sizes)), (q_p1_orders, .inl (cI, 30, .inl vp1_orders)), (q_p1_struck, .inl (cI, 5, .inl vp1_struck))] := hD
  have hP : va_P (dC, dI) classes [(q_this, .inr (0, [.int vballots, .int vused, .int vchosen, .int vwaiter, .int vwait, .ref q_wrote, .ref q_writes, .ref q_counts])), (q_wrote, .inl (cI, 6, .inl vwrote)), (q_writes, .inl (cI, 6, .inl vwrites)), (q_counts, .inl (cI, 5, .inl vcounts)), (q_p1, .inr (5, [.int vp1_blocks, .ref q_p1_members, .ref q_p1_moves, .ref q_p1_digits, .ref q_p1_sizes, .ref q_p1_orders, .ref q_p1_above, .ref q_p1_below, .ref q_p1_struck, .ref q_p1_lots])), (q_p1_members, .inl (cI, 6, .inl vp1_members)), (q_p1_moves, .inl (cI, 6, .inl vp1_moves)), (q_p1_digits, .inl (cI, 6, .inl vp1_digits)), (q_p1_sizes, .inl (cI, 6, .inl vp1_sizes)), (q_p1_orders, .inl (cI, 30, .inl vp1_orders)), (q_p1_struck, .inl (cI, 5, .inl vp1_struck))] s.heap := hP
  have hG : ∀ w ∈ wsL_law, w.before args s = true := fun w h => hts w (List.mem_cons_of_mem _ h)
  have hown : s.vm.findClass RX0 = some m.cls := hown
  have hl : lv_has ls 8 [(0, .ref q_this), (1, .ref q_p1), (2, .int x2), (3, .int x3)] := hl
  unfold f_X0_write at hf
  have hL16 : ∀ (n : Nat) (x4 : Int32) (x5 : Int32) (x6 : Int32) (vwrites : Nat → Int32) (res16 : Int32 × (Nat → Int32)), lp (fun s => f_X0_write_B16 N vwaiter vwait vwrote vcounts vp1_blocks vp1_moves vp1_digits vp1_sizes vp1_orders x2 x3 x4 x5 s.1 s.2) n (x6, vwrites) = some res16 → ∀ (H : Heap) (locs : List Loc) (ls : Array Slot), va_P (dC, dI) classes [(q_this, .inr (0, [.int vballots, .int vused, .int vchosen, .int vwaiter, .int vwait, .ref q_wrote, .ref q_writes, .ref q_counts])), (q_wrote, .inl (cI, 6, .inl vwrote)), (q_writes, .inl (cI, 6, .inl vwrites)), (q_counts, .inl (cI, 5, .inl vcounts)), (q_p1, .inr (5, [.int vp1_blocks, .ref q_p1_members, .ref q_p1_moves, .ref q_p1_digits, .ref q_p1_sizes, .ref q_p1_orders, .ref q_p1_above, .ref q_p1_below, .ref q_p1_struck, .ref q_p1_lots])), (q_p1_members, .inl (cI, 6, .inl vp1_members)), (q_p1_moves, .inl (cI, 6, .inl vp1_moves)), (q_p1_digits, .inl (cI, 6, .inl vp1_digits)), (q_p1_sizes, .inl (cI, 6, .inl vp1_sizes)), (q_p1_orders, .inl (cI, 30, .inl vp1_orders)), (q_p1_struck, .inl (cI, 5, .inl vp1_struck))] H → va_D A [(q_this, .inr (0, [.int vballots, .int vused, .int vchosen, .int vwaiter, .int vwait, .ref q_wrote, .ref q_writes, .ref q_counts])), (q_wrote, .inl (cI, 6, .inl vwrote)), (q_writes, .inl (cI, 6, .inl vwrites)), (q_counts, .inl (cI, 5, .inl vcounts)), (q_p1, .inr (5, [.int vp1_blocks, .ref q_p1_members, .ref q_p1_moves, .ref q_p1_digits, .ref q_p1_sizes, .ref q_p1_orders, .ref q_p1_above, .ref q_p1_below, .ref q_p1_struck, .ref q_p1_lots])), (q_p1_members, .inl (cI, 6, .inl vp1_members)), (q_p1_moves, .inl (cI, 6, .inl vp1_moves)), (q_p1_digits, .inl (cI, 6, .inl vp1_digits)), (q_p1_sizes, .inl (cI, 6, .inl vp1_sizes)), (q_p1_orders, .inl (cI, 30, .inl vp1_orders)), (q_p1_struck, .inl (cI, 5, .inl vp1_struck))] → va_S A s.heap H locs → lv_has ls 8 [(0, .ref q_this), (1, .ref q_p1), (2, .int x2), (3, .int x3), (4, .int x4), (5, .int x5), (6, .int x6)] → (∀ (H : Heap) (locs : List Loc) (ls : Array Slot), va_P (dC, dI) classes [(q_this, .inr (0, [.int vballots, .int vused, .int vchosen, .int vwaiter, .int vwait, .ref q_wrote, .ref q_writes, .ref q_counts])), (q_wrote, .inl (cI, 6, .inl vwrote)), (q_writes, .inl (cI, 6, .inl res16.2)), (q_counts, .inl (cI, 5, .inl vcounts)), (q_p1, .inr (5, [.int vp1_blocks, .ref q_p1_members, .ref q_p1_moves, .ref q_p1_digits, .ref q_p1_sizes, .ref q_p1_orders, .ref q_p1_above, .ref q_p1_below, .ref q_p1_struck, .ref q_p1_lots])), (q_p1_members, .inl (cI, 6, .inl vp1_members)), (q_p1_moves, .inl (cI, 6, .inl vp1_moves)), (q_p1_digits, .inl (cI, 6, .inl vp1_digits)), (q_p1_sizes, .inl (cI, 6, .inl vp1_sizes)), (q_p1_orders, .inl (cI, 30, .inl vp1_orders)), (q_p1_struck, .inl (cI, 5, .inl vp1_struck))] H → va_D A [(q_this, .inr (0, [.int vballots, .int vused, .int vchosen, .int vwaiter, .int vwait, .ref q_wrote, .ref q_writes, .ref q_counts])), (q_wrote, .inl (cI, 6, .inl vwrote)), (q_writes, .inl (cI, 6, .inl res16.2)), (q_counts, .inl (cI, 5, .inl vcounts)), (q_p1, .inr (5, [.int vp1_blocks, .ref q_p1_members, .ref q_p1_moves, .ref q_p1_digits, .ref q_p1_sizes, .ref q_p1_orders, .ref q_p1_above, .ref q_p1_below, .ref q_p1_struck, .ref q_p1_lots])), (q_p1_members, .inl (cI, 6, .inl vp1_members)), (q_p1_moves, .inl (cI, 6, .inl vp1_moves)), (q_p1_digits, .inl (cI, 6, .inl vp1_digits)), (q_p1_sizes, .inl (cI, 6, .inl vp1_sizes)), (q_p1_orders, .inl (cI, 30, .inl vp1_orders)), (q_p1_struck, .inl (cI, 5, .inl vp1_struck))] → va_S A s.heap H locs → lv_has ls 8 [(0, .ref q_this), (1, .ref q_p1)] → W p l e (kR 3) s m args below meth c H locs 0 0 (MQ below (qWv (fun w => w = (w_X0_write cI cJ cB q_this q_p1 q_wrote q_writes q_counts q_p1_members q_p1_moves q_p1_digits q_p1_sizes q_p1_orders q_p1_above q_p1_below q_p1_struck q_p1_lots vballots vused vchosen vwaiter vwait r.1 r.2.1 r.2.2 vp1_blocks vp1_members vp1_moves vp1_digits vp1_sizes vp1_orders vp1_struck)) (dC, dI) A) args s 0 0 A) (F0 m 93 ls [])) → W p l e (kR 3) s m args below meth c H locs 0 0 (MQ below (qWv (fun w => w = (w_X0_write cI cJ cB q_this q_p1 q_wrote q_writes q_counts q_p1_members q_p1_moves q_p1_digits q_p1_sizes q_p1_orders q_p1_above q_p1_below q_p1_struck q_p1_lots vballots vused vchosen vwaiter vwait r.1 r.2.1 r.2.2 vp1_blocks vp1_members vp1_moves vp1_digits vp1_sizes vp1_orders vp1_struck)) (dC, dI) A) args s 0 0 A) (F0 m 16 ls []) := by
    intro n
    induction n with
    | zero => intro x4 x5 x6 vwrites res16 h9; exact (lp_zero h9).elim
    | succ n ih =>
      intro x4 x5 x6 vwrites res16 h9 H locs ls hP hD hS hl K
      obtain ⟨o16, hf, hnext, hexit⟩ := lp_succ h9
      have hf : f_X0_write_B16 N vwaiter vwait vwrote vcounts vp1_blocks vp1_moves vp1_digits vp1_sizes vp1_orders x2 x3 x4 x5 x6 vwrites = some o16 := hf
      unfold f_X0_write_B16 at hf
      have hJ87 : ∀ (vwrites : Nat → Int32), f_X0_write_L87 x6 vwrites = some o16 → ∀ (H : Heap) (locs : List Loc) (ls : Array Slot), va_P (dC, dI) classes [(q_this, .inr (0, [.int vballots, .int vused, .int vchosen, .int vwaiter, .int vwait, .ref q_wrote, .ref q_writes, .ref q_counts])), (q_wrote, .inl (cI, 6, .inl vwrote)), (q_writes, .inl (cI, 6, .inl vwrites)), (q_counts, .inl (cI, 5, .inl vcounts)), (q_p1, .inr (5, [.int vp1_blocks, .ref q_p1_members, .ref q_p1_moves, .ref q_p1_digits, .ref q_p1_sizes, .ref q_p1_orders, .ref q_p1_above, .ref q_p1_below, .ref q_p1_struck, .ref q_p1_lots])), (q_p1_members, .inl (cI, 6, .inl vp1_members)), (q_p1_moves, .inl (cI, 6, .inl vp1_moves)), (q_p1_digits, .inl (cI, 6, .inl vp1_digits)), (q_p1_sizes, .inl (cI, 6, .inl vp1_sizes)), (q_p1_orders, .inl (cI, 30, .inl vp1_orders)), (q_p1_struck, .inl (cI, 5, .inl vp1_struck))] H → va_D A [(q_this, .inr (0, [.int vballots, .int vused, .int vchosen, .int vwaiter, .int vwait, .ref q_wrote, .ref q_writes, .ref q_counts])), (q_wrote, .inl (cI, 6, .inl vwrote)), (q_writes, .inl (cI, 6, .inl vwrites)), (q_counts, .inl (cI, 5, .inl vcounts)), (q_p1, .inr (5, [.int vp1_blocks, .ref q_p1_members, .ref q_p1_moves, .ref q_p1_digits, .ref q_p1_sizes, .ref q_p1_orders, .ref q_p1_above, .ref q_p1_below, .ref q_p1_struck, .ref q_p1_lots])), (q_p1_members, .inl (cI, 6, .inl vp1_members)), (q_p1_moves, .inl (cI, 6, .inl vp1_moves)), (q_p1_digits, .inl (cI, 6, .inl vp1_digits)), (q_p1_sizes, .inl (cI, 6, .inl vp1_sizes)), (q_p1_orders, .inl (cI, 30, .inl vp1_orders)), (q_p1_struck, .inl (cI, 5, .inl vp1_struck))] → va_S A s.heap H locs → lv_has ls 8 [(0, .ref q_this), (1, .ref q_p1), (2, .int x2), (3, .int x3), (4, .int x4), (5, .int x5), (6, .int x6)] → W p l e (kR 3) s m args below meth c H locs 0 0 (MQ below (qWv (fun w => w = (w_X0_write cI cJ cB q_this q_p1 q_wrote q_writes q_counts q_p1_members q_p1_moves q_p1_digits q_p1_sizes q_p1_orders q_p1_above q_p1_below q_p1_struck q_p1_lots vballots vused vchosen vwaiter vwait r.1 r.2.1 r.2.2 vp1_blocks vp1_members vp1_moves vp1_digits vp1_sizes vp1_orders vp1_struck)) (dC, dI) A) args s 0 0 A) (F0 m 87 ls []) := by
        intro vwrites hf H locs ls hP hD hS hl
        unfold f_X0_write_L87 at hf
        refine lv_iinc (v := (x6 + (1 : Int32))) (lv' := [(6, .int (x6 + (1 : Int32))), (0, .ref q_this), (1, .ref q_p1), (2, .int x2), (3, .int x3), (4, .int x4), (5, .int x5)]) hx hb dX0_write_87 hl (k := 6) rfl rfl (by decide) rfl (fun ls hl => ?_)
        refine lv_goto (tgt := 16) hx hb dX0_write_90 (by decide) ?_
        exact ih x4 x5 (x6 + (1 : Int32)) vwrites res16 (hnext _ (osi hf).symm) _ _ ls hP hD hS (lv_sub hl [1, 2, 3, 4, 5, 6, 0] rfl) K
      have hJ86 : ∀ (z0 : Int32) (z1 : Int32), f_X0_write_L86 vwrites x6 z0 z1 = some o16 → ∀ (H : Heap) (locs : List Loc) (ls : Array Slot), va_P (dC, dI) classes [(q_this, .inr (0, [.int vballots, .int vused, .int vchosen, .int vwaiter, .int vwait, .ref q_wrote, .ref q_writes, .ref q_counts])), (q_wrote, .inl (cI, 6, .inl vwrote)), (q_writes, .inl (cI, 6, .inl vwrites)), (q_counts, .inl (cI, 5, .inl vcounts)), (q_p1, .inr (5, [.int vp1_blocks, .ref q_p1_members, .ref q_p1_moves, .ref q_p1_digits, .ref q_p1_sizes, .ref q_p1_orders, .ref q_p1_above, .ref q_p1_below, .ref q_p1_struck, .ref q_p1_lots])), (q_p1_members, .inl (cI, 6, .inl vp1_members)), (q_p1_moves, .inl (cI, 6, .inl vp1_moves)), (q_p1_digits, .inl (cI, 6, .inl vp1_digits)), (q_p1_sizes, .inl (cI, 6, .inl vp1_sizes)), (q_p1_orders, .inl (cI, 30, .inl vp1_orders)), (q_p1_struck, .inl (cI, 5, .inl vp1_struck))] H → va_D A [(q_this, .inr (0, [.int vballots, .int vused, .int vchosen, .int vwaiter, .int vwait, .ref q_wrote, .ref q_writes, .ref q_counts])), (q_wrote, .inl (cI, 6, .inl vwrote)), (q_writes, .inl (cI, 6, .inl vwrites)), (q_counts, .inl (cI, 5, .inl vcounts)), (q_p1, .inr (5, [.int vp1_blocks, .ref q_p1_members, .ref q_p1_moves, .ref q_p1_digits, .ref q_p1_sizes, .ref q_p1_orders, .ref q_p1_above, .ref q_p1_below, .ref q_p1_struck, .ref q_p1_lots])), (q_p1_members, .inl (cI, 6, .inl vp1_members)), (q_p1_moves, .inl (cI, 6, .inl vp1_moves)), (q_p1_digits, .inl (cI, 6, .inl vp1_digits)), (q_p1_sizes, .inl (cI, 6, .inl vp1_sizes)), (q_p1_orders, .inl (cI, 30, .inl vp1_orders)), (q_p1_struck, .inl (cI, 5, .inl vp1_struck))] → va_S A s.heap H locs → lv_has ls 8 [(0, .ref q_this), (1, .ref q_p1), (2, .int x2), (3, .int x3), (4, .int x4), (5, .int x5), (6, .int x6)] → W p l e (kR 3) s m args below meth c H locs 0 0 (MQ below (qWv (fun w => w = (w_X0_write cI cJ cB q_this q_p1 q_wrote q_writes q_counts q_p1_members q_p1_moves q_p1_digits q_p1_sizes q_p1_orders q_p1_above q_p1_below q_p1_struck q_p1_lots vballots vused vchosen vwaiter vwait r.1 r.2.1 r.2.2 vp1_blocks vp1_members vp1_moves vp1_digits vp1_sizes vp1_orders vp1_struck)) (dC, dI) A) args s 0 0 A) (F0 m 86 ls [.int z0, .int z1, .ref q_writes]) := by
        intro z0 z1 hf H locs ls hP hD hS hl
        unfold f_X0_write_L86 at hf
        obtain ⟨g1, hf⟩ := og hf
        refine va_iast hx hb hK.1 hP hD hS 2 0 rfl rfl g1 dX0_write_86 (fun H locs hP hD hS => ?_)
        have hP : va_P (dC, dI) classes [(q_this, .inr (0, [.int vballots, .int vused, .int vchosen, .int vwaiter, .int vwait, .ref q_wrote, .ref q_writes, .ref q_counts])), (q_wrote, .inl (cI, 6, .inl vwrote)), (q_writes, .inl (cI, 6, .inl (upd vwrites z1.toNatClampNeg z0))), (q_counts, .inl (cI, 5, .inl vcounts)), (q_p1, .inr (5, [.int vp1_blocks, .ref q_p1_members, .ref q_p1_moves, .ref q_p1_digits, .ref q_p1_sizes, .ref q_p1_orders, .ref q_p1_above, .ref q_p1_below, .ref q_p1_struck, .ref q_p1_lots])), (q_p1_members, .inl (cI, 6, .inl vp1_members)), (q_p1_moves, .inl (cI, 6, .inl vp1_moves)), (q_p1_digits, .inl (cI, 6, .inl vp1_digits)), (q_p1_sizes, .inl (cI, 6, .inl vp1_sizes)), (q_p1_orders, .inl (cI, 30, .inl vp1_orders)), (q_p1_struck, .inl (cI, 5, .inl vp1_struck))] H := hP
        have hD : va_D A [(q_this, .inr (0, [.int vballots, .int vused, .int vchosen, .int vwaiter, .int vwait, .ref q_wrote, .ref q_writes, .ref q_counts])), (q_wrote, .inl (cI, 6, .inl vwrote)), (q_writes, .inl (cI, 6, .inl (upd vwrites z1.toNatClampNeg z0))), (q_counts, .inl (cI, 5, .inl vcounts)), (q_p1, .inr (5, [.int vp1_blocks, .ref q_p1_members, .ref q_p1_moves, .ref q_p1_digits, .ref q_p1_sizes, .ref q_p1_orders, .ref q_p1_above, .ref q_p1_below, .ref q_p1_struck, .ref q_p1_lots])), (q_p1_members, .inl (cI, 6, .inl vp1_members)), (q_p1_moves, .inl (cI, 6, .inl vp1_moves)), (q_p1_digits, .inl (cI, 6, .inl vp1_digits)), (q_p1_sizes, .inl (cI, 6, .inl vp1_sizes)), (q_p1_orders, .inl (cI, 30, .inl vp1_orders)), (q_p1_struck, .inl (cI, 5, .inl vp1_struck))] := hD
        exact hJ87 (upd vwrites z1.toNatClampNeg z0) hf _ _ ls hP hD hS (lv_sub hl [0, 1, 2, 3, 4, 5, 6] rfl)
      refine lv_iload hx hb dX0_write_16 (lv_at hl 6 rfl) ?_
      refine lv_aload_n hx hb dX0_write_18 rfl (lv_at hl 1 rfl) ?_
      refine p_get (D := (dC, dI)) (ci := 5) (v := .int vp1_blocks) (C := RX5) (T := TX5) (N := 10) 0 fX5_0 hx hb hG inlX5 hown hK.1 hP 4 rfl rfl (by decide) (hG _ mw_465) rfl dX0_write_19 ?_
      refine lv_icmp_ge (tgt := 93) hx hb dX0_write_22 (by decide) (fun c2 => ?_) (fun c2 => ?_)
      · replace hf := ot hf c2
        have hf := hexit _ (osi hf).symm
        subst hf
        exact K  _ _ ls hP hD hS (lv_sub hl [0, 1] rfl)
      · replace hf := oe hf c2
        refine lv_aload_n hx hb dX0_write_25 rfl (lv_at hl 0 rfl) ?_
        refine lv_iload hx hb dX0_write_26 (lv_at hl 6 rfl) ?_
        obtain ⟨u3, hu3, hf⟩ := ob hf
        refine k_Vi (As := [.int x6]) (rest := []) ⟨hx, hb, hml, hown, hts⟩ hK hP [0] rfl (c_X0_firmBallot l dC dI cI cJ cB q_this q_wrote q_writes q_counts vballots vused vchosen vwaiter vwait x6 hu3) (gl_X0_86 hts ⟨(Nat.le_of_ble_eq_true rfl), (Nat.le_of_ble_eq_true rfl)⟩) 0 0 rfl rfl rfl rfl hl.1 rfl (Nat.le_of_ble_eq_true rfl) dX0_write_28 ⟨Nat.zero_le _, Nat.zero_le _⟩ ?_
        refine lv_istore (lv' := [(7, .int u3), (0, .ref q_this), (1, .ref q_p1), (2, .int x2), (3, .int x3), (4, .int x4), (5, .int x5), (6, .int x6)]) hx hb dX0_write_31 hl (by decide) rfl (fun ls hl => ?_)
        refine lv_iload_n hx hb dX0_write_33 rfl (lv_at hl 3 rfl) ?_
        refine lv_iload hx hb dX0_write_34 (lv_at hl 0 rfl) ?_
        refine lv_icmp_le (tgt := 61) hx hb dX0_write_36 (by decide) (fun c4 => ?_) (fun c4 => ?_)
        · replace hf := ot hf c4
          refine lv_aload_n hx hb dX0_write_61 rfl (lv_at hl 1 rfl) ?_
          refine p_get (D := (dC, dI)) (ci := 0) (v := .ref q_writes) (C := RX0) (T := TX0) (N := 8) 6 fX0_6 hx hb hG inlX0 hown hK.1 hP 0 rfl rfl (by decide) (hG _ mw_76) rfl dX0_write_62 ?_
          refine lv_iload hx hb dX0_write_65 (lv_at hl 7 rfl) ?_
          refine lv_iload_n hx hb dX0_write_67 rfl (lv_at hl 3 rfl) ?_
          refine lv_iload hx hb dX0_write_68 (lv_at hl 0 rfl) ?_
          refine lv_icmp_ne (tgt := 85) hx hb dX0_write_70 (by decide) (fun c5 => ?_) (fun c5 => ?_)
          · replace hf := oe hf c5
            refine lv_iconst (v := (-1 : Int32)) hx hb dX0_write_85 (by decide) ?_
            exact hJ86 (-1 : Int32) x6 hf _ _ ls hP hD hS (lv_sub hl [1, 2, 3, 4, 5, 6, 7] rfl)
          · replace hf := ot hf c5
            refine lv_aload_n hx hb dX0_write_73 rfl (lv_at hl 2 rfl) ?_
            refine lv_iload hx hb dX0_write_74 (lv_at hl 7 rfl) ?_
            refine lv_iconst (v := (0 : Int32)) hx hb dX0_write_76 (by decide) ?_
            refine lv_iload hx hb dX0_write_77 (lv_at hl 6 rfl) ?_
            obtain ⟨u6, hu6, hf⟩ := ob hf
            refine k_Vi (As := [.int x6, .int (0 : Int32), .int x5]) (rest := [.int x6, .ref q_writes]) ⟨hx, hb, hml, hown, hts⟩ hK hP [4, 8, 9] rfl (c_X5_firstAlive l dC dI cI cJ cB q_p1 q_p1_members q_p1_moves q_p1_digits q_p1_sizes q_p1_orders q_p1_above q_p1_below q_p1_struck q_p1_lots vp1_blocks vp1_sizes vp1_orders x6 (0 : Int32) x5 hu6) (gl_X0_107 hts ⟨(Nat.le_of_ble_eq_true rfl), (Nat.le_of_ble_eq_true rfl)⟩) 4 5 rfl rfl rfl rfl hl.1 rfl (Nat.le_of_ble_eq_true rfl) dX0_write_79 ⟨Nat.zero_le _, Nat.zero_le _⟩ ?_
            refine lv_goto (tgt := 86) hx hb dX0_write_82 (by decide) ?_
            exact hJ86 u6 x6 hf _ _ ls hP hD hS (lv_sub hl [1, 2, 3, 4, 5, 6, 7] rfl)
        · replace hf := oe hf c4
          refine lv_aload_n hx hb dX0_write_39 rfl (lv_at hl 1 rfl) ?_
          refine p_get (D := (dC, dI)) (ci := 0) (v := .ref q_writes) (C := RX0) (T := TX0) (N := 8) 6 fX0_6 hx hb hG inlX0 hown hK.1 hP 0 rfl rfl (by decide) (hG _ mw_76) rfl dX0_write_40 ?_
          refine lv_iload hx hb dX0_write_43 (lv_at hl 7 rfl) ?_
          refine lv_aload_n hx hb dX0_write_45 rfl (lv_at hl 1 rfl) ?_
          refine lv_aload_n hx hb dX0_write_46 rfl (lv_at hl 2 rfl) ?_
          refine lv_iload hx hb dX0_write_47 (lv_at hl 7 rfl) ?_
          refine lv_iload hx hb dX0_write_49 (lv_at hl 6 rfl) ?_
          refine lv_iload hx hb dX0_write_51 (lv_at hl 5 rfl) ?_
          refine lv_iload_n hx hb dX0_write_53 rfl (lv_at hl 4 rfl) ?_
          obtain ⟨u7, hu7, hf⟩ := ob hf
          refine k_Vi (As := [.ref q_p1, .int x6, .int x5, .int x4, .int x3]) (rest := [.int x6, .ref q_writes]) ⟨hx, hb, hml, hown, hts⟩ hK hP [0, 1, 3, 4, 6, 7, 8, 9] rfl (c_X0_byMove l dC dI cI cJ cB q_this q_p1 q_wrote q_writes q_counts q_p1_members q_p1_moves q_p1_digits q_p1_sizes q_p1_orders q_p1_above q_p1_below q_p1_struck q_p1_lots vballots vused vchosen vwaiter vwait vwrote vcounts vp1_blocks vp1_moves vp1_digits vp1_sizes vp1_orders x6 x5 x4 x3 hu7) (gl_X0_103 hts ⟨(Nat.le_of_ble_eq_true rfl), (Nat.le_of_ble_eq_true rfl)⟩) 0 0 rfl rfl rfl rfl hl.1 rfl (Nat.le_of_ble_eq_true rfl) dX0_write_54 ⟨Nat.zero_le _, Nat.zero_le _⟩ ?_
          obtain ⟨g8, hf⟩ := og hf
          refine va_iast hx hb hK.1 hP hD hS 2 0 rfl rfl g8 dX0_write_57 (fun H locs hP hD hS => ?_)
          have hP : va_P (dC, dI) classes [(q_this, .inr (0, [.int vballots, .int vused, .int vchosen, .int vwaiter, .int vwait, .ref q_wrote, .ref q_writes, .ref q_counts])), (q_wrote, .inl (cI, 6, .inl vwrote)), (q_writes, .inl (cI, 6, .inl (upd vwrites x6.toNatClampNeg u7))), (q_counts, .inl (cI, 5, .inl vcounts)), (q_p1, .inr (5, [.int vp1_blocks, .ref q_p1_members, .ref q_p1_moves, .ref q_p1_digits, .ref q_p1_sizes, .ref q_p1_orders, .ref q_p1_above, .ref q_p1_below, .ref q_p1_struck, .ref q_p1_lots])), (q_p1_members, .inl (cI, 6, .inl vp1_members)), (q_p1_moves, .inl (cI, 6, .inl vp1_moves)), (q_p1_digits, .inl (cI, 6, .inl vp1_digits)), (q_p1_sizes, .inl (cI, 6, .inl vp1_sizes)), (q_p1_orders, .inl (cI, 30, .inl vp1_orders)), (q_p1_struck, .inl (cI, 5, .inl vp1_struck))] H := hP
          have hD : va_D A [(q_this, .inr (0, [.int vballots, .int vused, .int vchosen, .int vwaiter, .int vwait, .ref q_wrote, .ref q_writes, .ref q_counts])), (q_wrote, .inl (cI, 6, .inl vwrote)), (q_writes, .inl (cI, 6, .inl (upd vwrites x6.toNatClampNeg u7))), (q_counts, .inl (cI, 5, .inl vcounts)), (q_p1, .inr (5, [.int vp1_blocks, .ref q_p1_members, .ref q_p1_moves, .ref q_p1_digits, .ref q_p1_sizes, .ref q_p1_orders, .ref q_p1_above, .ref q_p1_below, .ref q_p1_struck, .ref q_p1_lots])), (q_p1_members, .inl (cI, 6, .inl vp1_members)), (q_p1_moves, .inl (cI, 6, .inl vp1_moves)), (q_p1_digits, .inl (cI, 6, .inl vp1_digits)), (q_p1_sizes, .inl (cI, 6, .inl vp1_sizes)), (q_p1_orders, .inl (cI, 30, .inl vp1_orders)), (q_p1_struck, .inl (cI, 5, .inl vp1_struck))] := hD
          refine lv_goto (tgt := 87) hx hb dX0_write_58 (by decide) ?_
          exact hJ87 (upd vwrites x6.toNatClampNeg u7) hf _ _ ls hP hD hS (lv_sub hl [1, 2, 3, 4, 5, 6, 7] rfl)
  refine lv_aload_n hx hb dX0_write_0 rfl (lv_at hl 0 rfl) ?_
  obtain ⟨u9, hu9, hf⟩ := ob hf
  refine k_Vi (As := []) (rest := []) ⟨hx, hb, hml, hown, hts⟩ hK hP [0, 3] rfl (c_X0_lastName l dC dI cI cJ cB q_this q_wrote q_writes q_counts vballots vused vchosen vwaiter vwait vcounts hu9) (gl_X0_96 hts ⟨(Nat.le_of_ble_eq_true rfl), (Nat.le_of_ble_eq_true rfl)⟩) 0 0 rfl rfl rfl rfl hl.1 rfl (Nat.le_of_ble_eq_true rfl) dX0_write_1 ⟨Nat.zero_le _, Nat.zero_le _⟩ ?_
  refine lv_istore (lv' := [(4, .int u9), (0, .ref q_this), (1, .ref q_p1), (2, .int x2), (3, .int x3)]) hx hb dX0_write_4 hl (by decide) rfl (fun ls hl => ?_)
  refine lv_aload_n hx hb dX0_write_6 rfl (lv_at hl 2 rfl) ?_
  refine lv_iload_n hx hb dX0_write_7 rfl (lv_at hl 3 rfl) ?_
  obtain ⟨u10, hu10, hf⟩ := ob hf
  refine k_Vi (As := [.int x2]) (rest := []) ⟨hx, hb, hml, hown, hts⟩ hK hP [4, 10] rfl (c_X5_namesAlive l dC dI cI cJ cB q_p1 q_p1_members q_p1_moves q_p1_digits q_p1_sizes q_p1_orders q_p1_above q_p1_below q_p1_struck q_p1_lots vp1_blocks vp1_struck x2 hu10) (gl_X0_100 hts ⟨(Nat.le_of_ble_eq_true rfl), (Nat.le_of_ble_eq_true rfl)⟩) 4 5 rfl rfl rfl rfl hl.1 rfl (Nat.le_of_ble_eq_true rfl) dX0_write_8 ⟨Nat.zero_le _, Nat.zero_le _⟩ ?_
  refine lv_istore (lv' := [(5, .int u10), (4, .int u9), (0, .ref q_this), (1, .ref q_p1), (2, .int x2), (3, .int x3)]) hx hb dX0_write_11 hl (by decide) rfl (fun ls hl => ?_)
  refine lv_iconst (v := (0 : Int32)) hx hb dX0_write_13 (by decide) ?_
  refine lv_istore (lv' := [(6, .int (0 : Int32)), (5, .int u10), (4, .int u9), (0, .ref q_this), (1, .ref q_p1), (2, .int x2), (3, .int x3)]) hx hb dX0_write_14 hl (by decide) rfl (fun ls hl => ?_)
  obtain ⟨e11, hp11, hf⟩ := ob hf
  refine hL16 N u9 u10 (0 : Int32) vwrites e11 hp11 _ _ ls hP hD hS (lv_sub hl [3, 4, 5, 6, 2, 1, 0] rfl) (fun  H locs ls hP hD hS hl => ?_)
  have hP : va_P (dC, dI) classes [(q_this, .inr (0, [.int vballots, .int vused, .int vchosen, .int vwaiter, .int vwait, .ref q_wrote, .ref q_writes, .ref q_counts])), (q_wrote, .inl (cI, 6, .inl vwrote)), (q_writes, .inl (cI, 6, .inl e11.2)), (q_counts, .inl (cI, 5, .inl vcounts)), (q_p1, .inr (5, [.int vp1_blocks, .ref q_p1_members, .ref q_p1_moves, .ref q_p1_digits, .ref q_p1_sizes, .ref q_p1_orders, .ref q_p1_above, .ref q_p1_below, .ref q_p1_struck, .ref q_p1_lots])), (q_p1_members, .inl (cI, 6, .inl vp1_members)), (q_p1_moves, .inl (cI, 6, .inl vp1_moves)), (q_p1_digits, .inl (cI, 6, .inl vp1_digits)), (q_p1_sizes, .inl (cI, 6, .inl vp1_sizes)), (q_p1_orders, .inl (cI, 30, .inl vp1_orders)), (q_p1_struck, .inl (cI, 5, .inl vp1_struck))] H := hP
  have hD : va_D A [(q_this, .inr (0, [.int vballots, .int vused, .int vchosen, .int vwaiter, .int vwait, .ref q_wrote, .ref q_writes, .ref q_counts])), (q_wrote, .inl (cI, 6, .inl vwrote)), (q_writes, .inl (cI, 6, .inl e11.2)), (q_counts, .inl (cI, 5, .inl vcounts)), (q_p1, .inr (5, [.int vp1_blocks, .ref q_p1_members, .ref q_p1_moves, .ref q_p1_digits, .ref q_p1_sizes, .ref q_p1_orders, .ref q_p1_above, .ref q_p1_below, .ref q_p1_struck, .ref q_p1_lots])), (q_p1_members, .inl (cI, 6, .inl vp1_members)), (q_p1_moves, .inl (cI, 6, .inl vp1_moves)), (q_p1_digits, .inl (cI, 6, .inl vp1_digits)), (q_p1_sizes, .inl (cI, 6, .inl vp1_sizes)), (q_p1_orders, .inl (cI, 30, .inl vp1_orders)), (q_p1_struck, .inl (cI, 5, .inl vp1_struck))] := hD
  have hl : lv_has ls 8 [(0, .ref q_this), (1, .ref q_p1)] := hl
  refine lv_aload_n hx hb dX0_write_93 rfl (lv_at hl 0 rfl) ?_
  refine p_get (D := (dC, dI)) (ci := 0) (v := .ref q_writes) (C := RX0) (T := TX0) (N := 8) 6 fX0_6 hx hb hG inlX0 hown hK.1 hP 0 rfl rfl (by decide) (hG _ mw_76) rfl dX0_write_94 ?_
  refine lv_iconst (v := (0 : Int32)) hx hb dX0_write_97 (by decide) ?_
  refine lv_aload_n hx hb dX0_write_98 rfl (lv_at hl 0 rfl) ?_
  refine p_get (D := (dC, dI)) (ci := 0) (v := .ref q_wrote) (C := RX0) (T := TX0) (N := 8) 5 fX0_5 hx hb hG inlX0 hown hK.1 hP 0 rfl rfl (by decide) (hG _ mw_75) rfl dX0_write_99 ?_
  refine lv_iconst (v := (0 : Int32)) hx hb dX0_write_102 (by decide) ?_
  refine lv_aload_n hx hb dX0_write_103 rfl (lv_at hl 1 rfl) ?_
  refine p_get (D := (dC, dI)) (ci := 5) (v := .int vp1_blocks) (C := RX5) (T := TX5) (N := 10) 0 fX5_0 hx hb hG inlX5 hown hK.1 hP 4 rfl rfl (by decide) (hG _ mw_465) rfl dX0_write_104 ?_
  obtain ⟨g12, hf⟩ := og hf
  refine va_copyi hx hb (hml.trans hl.1.symm) hown (hG _ mw_477) (hG _ mw_235) (hG _ mw_236) (hG _ mw_237) hK.1 hP hD hS 2 1 0 0 rfl rfl rfl rfl rfl (by decide) (by decide) (fun h9 => g12 (Or.inl h9)) (x_cp (by decide) (fun h9 => g12 (Or.inr h9))) (x_cp (by decide) (fun h9 => g12 (Or.inr h9))) (fun _ _ => rfl) (Nat.le_of_ble_eq_true rfl) (Nat.le_of_ble_eq_true rfl) dX0_write_107 (fun H locs hP hD hS => ?_)
  have hP : va_P (dC, dI) classes [(q_this, .inr (0, [.int vballots, .int vused, .int vchosen, .int vwaiter, .int vwait, .ref q_wrote, .ref q_writes, .ref q_counts])), (q_wrote, .inl (cI, 6, .inl (va_cpy e11.2 vwrote (0 : Int32).toNatClampNeg (0 : Int32).toNatClampNeg vp1_blocks.toNatClampNeg))), (q_writes, .inl (cI, 6, .inl e11.2)), (q_counts, .inl (cI, 5, .inl vcounts)), (q_p1, .inr (5, [.int vp1_blocks, .ref q_p1_members, .ref q_p1_moves, .ref q_p1_digits, .ref q_p1_sizes, .ref q_p1_orders, .ref q_p1_above, .ref q_p1_below, .ref q_p1_struck, .ref q_p1_lots])), (q_p1_members, .inl (cI, 6, .inl vp1_members)), (q_p1_moves, .inl (cI, 6, .inl vp1_moves)), (q_p1_digits, .inl (cI, 6, .inl vp1_digits)), (q_p1_sizes, .inl (cI, 6, .inl vp1_sizes)), (q_p1_orders, .inl (cI, 30, .inl vp1_orders)), (q_p1_struck, .inl (cI, 5, .inl vp1_struck))] H := hP
  have hD : va_D A [(q_this, .inr (0, [.int vballots, .int vused, .int vchosen, .int vwaiter, .int vwait, .ref q_wrote, .ref q_writes, .ref q_counts])), (q_wrote, .inl (cI, 6, .inl (va_cpy e11.2 vwrote (0 : Int32).toNatClampNeg (0 : Int32).toNatClampNeg vp1_blocks.toNatClampNeg))), (q_writes, .inl (cI, 6, .inl e11.2)), (q_counts, .inl (cI, 5, .inl vcounts)), (q_p1, .inr (5, [.int vp1_blocks, .ref q_p1_members, .ref q_p1_moves, .ref q_p1_digits, .ref q_p1_sizes, .ref q_p1_orders, .ref q_p1_above, .ref q_p1_below, .ref q_p1_struck, .ref q_p1_lots])), (q_p1_members, .inl (cI, 6, .inl vp1_members)), (q_p1_moves, .inl (cI, 6, .inl vp1_moves)), (q_p1_digits, .inl (cI, 6, .inl vp1_digits)), (q_p1_sizes, .inl (cI, 6, .inl vp1_sizes)), (q_p1_orders, .inl (cI, 30, .inl vp1_orders)), (q_p1_struck, .inl (cI, 5, .inl vp1_struck))] := hD
  refine lv_aload_n hx hb dX0_write_110 rfl (lv_at hl 0 rfl) ?_
  refine lv_aload_n hx hb dX0_write_111 rfl (lv_at hl 1 rfl) ?_
  obtain ⟨u13, hu13, hf⟩ := ob hf
  refine k_VWv (As := [.ref q_p1]) (rest := []) (wr := [(q_writes, .inl (cI, 6, .inl e11.2)), (q_p1_moves, .inl (cI, 6, .inl vp1_moves)), (q_p1_digits, .inl (cI, 6, .inl vp1_digits)), (q_p1_sizes, .inl (cI, 6, .inl vp1_sizes)), (q_p1_orders, .inl (cI, 30, .inl vp1_orders)), (q_p1_struck, .inl (cI, 5, .inl vp1_struck))]) ⟨hx, hb, hml, hown, hts⟩ hK hP hD hS hA [0, 1, 3, 4, 5] [2, 6, 7, 8, 9, 10] rfl rfl (by decide) (by decide) (by decide) (c_X0_tally l dC dI cI cJ cB q_this q_p1 q_wrote q_writes q_counts q_p1_members q_p1_moves q_p1_digits q_p1_sizes q_p1_orders q_p1_above q_p1_below q_p1_struck q_p1_lots vballots vused vchosen vwaiter vwait (va_cpy e11.2 vwrote (0 : Int32).toNatClampNeg (0 : Int32).toNatClampNeg vp1_blocks.toNatClampNeg) vcounts vp1_blocks vp1_members _ hu13) (gl_X0_111 hts ⟨(Nat.le_of_ble_eq_true rfl), (Nat.le_of_ble_eq_true rfl)⟩) 0 0 rfl rfl rfl rfl hl.1 rfl (Nat.le_of_ble_eq_true rfl) dX0_write_112 ⟨(Nat.le_of_ble_eq_true rfl), (Nat.le_of_ble_eq_true rfl)⟩ (fun w H locs hE hP hD hS => ?_)
  subst hE
  have hP : va_P (dC, dI) classes [(q_writes, .inl (cI, 6, .inl e11.2)), (q_p1_moves, .inl (cI, 6, .inl vp1_moves)), (q_p1_digits, .inl (cI, 6, .inl vp1_digits)), (q_p1_sizes, .inl (cI, 6, .inl vp1_sizes)), (q_p1_orders, .inl (cI, 30, .inl vp1_orders)), (q_p1_struck, .inl (cI, 5, .inl vp1_struck)), (q_this, .inr (0, [.int vballots, .int vused, .int vchosen, .int vwaiter, .int vwait, .ref q_wrote, .ref q_writes, .ref q_counts])), (q_wrote, .inl (cI, 6, .inl (va_cpy e11.2 vwrote (0 : Int32).toNatClampNeg (0 : Int32).toNatClampNeg vp1_blocks.toNatClampNeg))), (q_counts, .inl (cI, 5, .inl u13)), (q_p1, .inr (5, [.int vp1_blocks, .ref q_p1_members, .ref q_p1_moves, .ref q_p1_digits, .ref q_p1_sizes, .ref q_p1_orders, .ref q_p1_above, .ref q_p1_below, .ref q_p1_struck, .ref q_p1_lots])), (q_p1_members, .inl (cI, 6, .inl vp1_members))] H := hP
  have hD : va_D A [(q_writes, .inl (cI, 6, .inl e11.2)), (q_p1_moves, .inl (cI, 6, .inl vp1_moves)), (q_p1_digits, .inl (cI, 6, .inl vp1_digits)), (q_p1_sizes, .inl (cI, 6, .inl vp1_sizes)), (q_p1_orders, .inl (cI, 30, .inl vp1_orders)), (q_p1_struck, .inl (cI, 5, .inl vp1_struck)), (q_this, .inr (0, [.int vballots, .int vused, .int vchosen, .int vwaiter, .int vwait, .ref q_wrote, .ref q_writes, .ref q_counts])), (q_wrote, .inl (cI, 6, .inl (va_cpy e11.2 vwrote (0 : Int32).toNatClampNeg (0 : Int32).toNatClampNeg vp1_blocks.toNatClampNeg))), (q_counts, .inl (cI, 5, .inl u13)), (q_p1, .inr (5, [.int vp1_blocks, .ref q_p1_members, .ref q_p1_moves, .ref q_p1_digits, .ref q_p1_sizes, .ref q_p1_orders, .ref q_p1_above, .ref q_p1_below, .ref q_p1_struck, .ref q_p1_lots])), (q_p1_members, .inl (cI, 6, .inl vp1_members))] := hD
  have hf := osi hf
  have hP : va_P (dC, dI) classes [(q_this, .inr (0, [.int vballots, .int vused, .int vchosen, .int vwaiter, .int vwait, .ref q_wrote, .ref q_writes, .ref q_counts])), (q_wrote, .inl (cI, 6, .inl (va_cpy e11.2 vwrote (0 : Int32).toNatClampNeg (0 : Int32).toNatClampNeg vp1_blocks.toNatClampNeg))), (q_writes, .inl (cI, 6, .inl e11.2)), (q_counts, .inl (cI, 5, .inl u13)), (q_p1, .inr (5, [.int vp1_blocks, .ref q_p1_members, .ref q_p1_moves, .ref q_p1_digits, .ref q_p1_sizes, .ref q_p1_orders, .ref q_p1_above, .ref q_p1_below, .ref q_p1_struck, .ref q_p1_lots])), (q_p1_members, .inl (cI, 6, .inl vp1_members)), (q_p1_moves, .inl (cI, 6, .inl vp1_moves)), (q_p1_digits, .inl (cI, 6, .inl vp1_digits)), (q_p1_sizes, .inl (cI, 6, .inl vp1_sizes)), (q_p1_orders, .inl (cI, 30, .inl vp1_orders)), (q_p1_struck, .inl (cI, 5, .inl vp1_struck))] H := hP.sub [6, 7, 0, 8, 9, 10, 1, 2, 3, 4, 5] rfl
  have hD : va_D A [(q_this, .inr (0, [.int vballots, .int vused, .int vchosen, .int vwaiter, .int vwait, .ref q_wrote, .ref q_writes, .ref q_counts])), (q_wrote, .inl (cI, 6, .inl (va_cpy e11.2 vwrote (0 : Int32).toNatClampNeg (0 : Int32).toNatClampNeg vp1_blocks.toNatClampNeg))), (q_writes, .inl (cI, 6, .inl e11.2)), (q_counts, .inl (cI, 5, .inl u13)), (q_p1, .inr (5, [.int vp1_blocks, .ref q_p1_members, .ref q_p1_moves, .ref q_p1_digits, .ref q_p1_sizes, .ref q_p1_orders, .ref q_p1_above, .ref q_p1_below, .ref q_p1_struck, .ref q_p1_lots])), (q_p1_members, .inl (cI, 6, .inl vp1_members)), (q_p1_moves, .inl (cI, 6, .inl vp1_moves)), (q_p1_digits, .inl (cI, 6, .inl vp1_digits)), (q_p1_sizes, .inl (cI, 6, .inl vp1_sizes)), (q_p1_orders, .inl (cI, 30, .inl vp1_orders)), (q_p1_struck, .inl (cI, 5, .inl vp1_struck))] := hD.sub [6, 7, 0, 8, 9, 10, 1, 2, 3, 4, 5] (by decide) rfl
  exact x_vW hx hb hr hlocks hP hD hS (by have h9 := congrArg (fun z : (Nat → Int32) × (Nat → Int32) × (Nat → Int32) => (w_X0_write cI cJ cB q_this q_p1 q_wrote q_writes q_counts q_p1_members q_p1_moves q_p1_digits q_p1_sizes q_p1_orders q_p1_above q_p1_below q_p1_struck q_p1_lots vballots vused vchosen vwaiter vwait z.1 z.2.1 z.2.2 vp1_blocks vp1_members vp1_moves vp1_digits vp1_sizes vp1_orders vp1_struck)) hf; exact h9) dX0_write_115
def f_X0_winner_L30 (x4 : Int32) (x3 : Int32) : Option ((Int32 × Int32) ⊕ (Int32 × Int32)) := some (.inl (x3, (x4 + (1 : Int32))))
def f_X0_winner_B5 (vcounts : Nat → Int32) (x3 : Int32) (x4 : Int32) : Option ((Int32 × Int32) ⊕ (Int32 × Int32)) := (if (5 : Int32) ≤ x4 then some (.inr (x3, x4)) else (if x4 < 0 ∨ 5 ≤ x4.toNatClampNeg then none else (if x3 < 0 ∨ 5 ≤ x3.toNatClampNeg then none else (if (vcounts x4.toNatClampNeg) ≤ (vcounts x3.toNatClampNeg) then (f_X0_winner_L30 x4 x3) else (f_X0_winner_L30 x4 x4)))))
def f_X0_winner (N : Nat) (vcounts : Nat → Int32) (vp1_blocks : Int32) (vp1_members : Nat → Int32) (vp1_above : Nat → Int32) (vp1_below : Nat → Int32) (x2 : Int32) : Option (Int32) := ((lp (fun s => f_X0_winner_B5 vcounts s.1 s.2) N ((0 : Int32), (1 : Int32))).bind (fun e5 => (if e5.1 < 0 ∨ 5 ≤ e5.1.toNatClampNeg then none else ((f_X5_needed N vp1_blocks vp1_members vp1_above vp1_below (x2 / (4 : Int32))).bind (fun u7 => (if (vcounts e5.1.toNatClampNeg) < u7 then some (-1 : Int32) else some e5.1))))))
def w_X0_winner (cI cJ cB : ClassId) (q_this q_p1 q_wrote q_writes q_counts q_p1_members q_p1_moves q_p1_digits q_p1_sizes q_p1_orders q_p1_above q_p1_below q_p1_struck q_p1_lots : Nat) (vballots : Int32) (vused : Int32) (vchosen : Int32) (vwaiter : Int32) (vwait : Int32) (vcounts : Nat → Int32) (vp1_blocks : Int32) (vp1_members : Nat → Int32) (vp1_above : Nat → Int32) (vp1_below : Nat → Int32) : va_W := [(q_this, .inr (0, [.int vballots, .int vused, .int vchosen, .int vwaiter, .int vwait, .ref q_wrote, .ref q_writes, .ref q_counts])), (q_counts, .inl (cI, 5, .inl vcounts)), (q_p1, .inr (5, [.int vp1_blocks, .ref q_p1_members, .ref q_p1_moves, .ref q_p1_digits, .ref q_p1_sizes, .ref q_p1_orders, .ref q_p1_above, .ref q_p1_below, .ref q_p1_struck, .ref q_p1_lots])), (q_p1_members, .inl (cI, 6, .inl vp1_members)), (q_p1_above, .inl (cI, 8, .inl vp1_above)), (q_p1_below, .inl (cI, 8, .inl vp1_below))]
set_option maxHeartbeats 4000000 in
set_option maxRecDepth 100000 in
theorem c_X0_winner (l : Launch) (dC : Nat → ClassId) (dI : Nat → Nat → Nat) (cI cJ cB : ClassId) (q_this q_p1 q_wrote q_writes q_counts q_p1_members q_p1_moves q_p1_digits q_p1_sizes q_p1_orders q_p1_above q_p1_below q_p1_struck q_p1_lots : Nat) (vballots : Int32) (vused : Int32) (vchosen : Int32) (vwaiter : Int32) (vwait : Int32) (vcounts : Nat → Int32) (vp1_blocks : Int32) (vp1_members : Nat → Int32) (vp1_above : Nat → Int32) (vp1_below : Nat → Int32) (x2 : Int32) {N : Nat} {r : Int32} (hf : f_X0_winner N vcounts vp1_blocks vp1_members vp1_above vp1_below x2 = some r) : Met l yX0_winner (Cond.code yX0_winner cX0_winner 5 (some .int) :: wsL_law) (kR 3) (va_Pc [.ref q_this, .ref q_p1, .int x2] (pR (dC, dI) cI cJ cB (w_X0_winner cI cJ cB q_this q_p1 q_wrote q_writes q_counts q_p1_members q_p1_moves q_p1_digits q_p1_sizes q_p1_orders q_p1_above q_p1_below q_p1_struck q_p1_lots vballots vused vchosen vwaiter vwait vcounts vp1_blocks vp1_members vp1_above vp1_below))) (qRi r) 0 0 (fun _ => False) := by
  refine k_ro (cc := cX0_winner) (n := 5) (ret := (some .int)) (by decide) (Nat.le_of_ble_eq_true rfl) ?_
  intro p e s m args below meth c ls hx hb hr hml hts hown hlocks hK hP hl
  have hP : va_P (dC, dI) classes [(q_this, .inr (0, [.int vballots, .int vused, .int vchosen, .int vwaiter, .int vwait, .ref q_wrote, .ref q_writes, .ref q_counts])), (q_counts, .inl (cI, 5, .inl vcounts)), (q_p1, .inr (5, [.int vp1_blocks, .ref q_p1_members, .ref q_p1_moves, .ref q_p1_digits, .ref q_p1_sizes, .ref q_p1_orders, .ref q_p1_above, .ref q_p1_below, .ref q_p1_struck, .ref q_p1_lots])), (q_p1_members, .inl (cI, 6, .inl vp1_members)), (q_p1_above, .inl (cI, 8, .inl vp1_above)), (q_p1_below, .inl (cI, 8, .inl vp1_below))] s.heap := hP
  have hG : ∀ w ∈ wsL_law, w.before args s = true := fun w h => hts w (List.mem_cons_of_mem _ h)
  have hown : s.vm.findClass RX0 = some m.cls := hown
  have hl : lv_has ls 5 [(0, .ref q_this), (1, .ref q_p1), (2, .int x2)] := hl
  unfold f_X0_winner at hf
  have hL5 : ∀ (n : Nat) (x3 : Int32) (x4 : Int32) (res5 : Int32 × Int32), lp (fun s => f_X0_winner_B5 vcounts s.1 s.2) n (x3, x4) = some res5 → ∀ (ls : Array Slot), lv_has ls 5 [(0, .ref q_this), (1, .ref q_p1), (2, .int x2), (3, .int x3), (4, .int x4)] → (∀ (ls : Array Slot), lv_has ls 5 [(0, .ref q_this), (1, .ref q_p1), (2, .int x2), (3, .int res5.1)] → W p l e (kR 3) s m args below meth c s.heap [] 0 0 (MQ below (qRi r) args s 0 0 (fun _ => False)) (F0 m 36 ls [])) → W p l e (kR 3) s m args below meth c s.heap [] 0 0 (MQ below (qRi r) args s 0 0 (fun _ => False)) (F0 m 5 ls []) := by
    intro n
    induction n with
    | zero => intro x3 x4 res5 h9; exact (lp_zero h9).elim
    | succ n ih =>
      intro x3 x4 res5 h9 ls hl K
      obtain ⟨o5, hf, hnext, hexit⟩ := lp_succ h9
      have hf : f_X0_winner_B5 vcounts x3 x4 = some o5 := hf
      unfold f_X0_winner_B5 at hf
      have hJ30 : ∀ (x3 : Int32), f_X0_winner_L30 x4 x3 = some o5 → ∀ (ls : Array Slot), lv_has ls 5 [(0, .ref q_this), (1, .ref q_p1), (2, .int x2), (3, .int x3), (4, .int x4)] → W p l e (kR 3) s m args below meth c s.heap [] 0 0 (MQ below (qRi r) args s 0 0 (fun _ => False)) (F0 m 30 ls []) := by
        intro x3 hf ls hl
        unfold f_X0_winner_L30 at hf
        refine lv_iinc (v := (x4 + (1 : Int32))) (lv' := [(4, .int (x4 + (1 : Int32))), (0, .ref q_this), (1, .ref q_p1), (2, .int x2), (3, .int x3)]) hx hb dX0_winner_30 hl (k := 4) rfl rfl (by decide) rfl (fun ls hl => ?_)
        refine lv_goto (tgt := 5) hx hb dX0_winner_33 (by decide) ?_
        exact ih x3 (x4 + (1 : Int32)) res5 (hnext _ (osi hf).symm) ls (lv_sub hl [1, 2, 3, 4, 0] rfl) K
      refine lv_iload hx hb dX0_winner_5 (lv_at hl 4 rfl) ?_
      refine lv_iconst (v := (5 : Int32)) hx hb dX0_winner_7 (by decide) ?_
      refine lv_icmp_ge (tgt := 36) hx hb dX0_winner_8 (by decide) (fun c1 => ?_) (fun c1 => ?_)
      · replace hf := ot hf c1
        have hf := hexit _ (osi hf).symm
        subst hf
        exact K  ls (lv_sub hl [0, 1, 2, 3] rfl)
      · replace hf := oe hf c1
        refine lv_aload_n hx hb dX0_winner_11 rfl (lv_at hl 0 rfl) ?_
        refine p_get (D := (dC, dI)) (ci := 0) (v := .ref q_counts) (C := RX0) (T := TX0) (N := 8) 7 fX0_7 hx hb hG inlX0 hown hK.1 hP 0 rfl rfl (by decide) (hG _ mw_77) rfl dX0_winner_12 ?_
        refine lv_iload hx hb dX0_winner_15 (lv_at hl 4 rfl) ?_
        obtain ⟨g2, hf⟩ := og hf
        refine va_iald hx hb hK.1 hP 1 0 rfl rfl g2 dX0_winner_17 ?_
        refine lv_aload_n hx hb dX0_winner_18 rfl (lv_at hl 0 rfl) ?_
        refine p_get (D := (dC, dI)) (ci := 0) (v := .ref q_counts) (C := RX0) (T := TX0) (N := 8) 7 fX0_7 hx hb hG inlX0 hown hK.1 hP 0 rfl rfl (by decide) (hG _ mw_77) rfl dX0_winner_19 ?_
        refine lv_iload_n hx hb dX0_winner_22 rfl (lv_at hl 3 rfl) ?_
        obtain ⟨g3, hf⟩ := og hf
        refine va_iald hx hb hK.1 hP 1 0 rfl rfl g3 dX0_winner_23 ?_
        refine lv_icmp_le (tgt := 30) hx hb dX0_winner_24 (by decide) (fun c4 => ?_) (fun c4 => ?_)
        · replace hf := ot hf c4
          exact hJ30 x3 hf ls (lv_sub hl [0, 1, 2, 3, 4] rfl)
        · replace hf := oe hf c4
          refine lv_iload hx hb dX0_winner_27 (lv_at hl 4 rfl) ?_
          refine lv_istore_n (lv' := [(3, .int x4), (0, .ref q_this), (1, .ref q_p1), (2, .int x2), (4, .int x4)]) hx hb dX0_winner_29 rfl hl (by decide) rfl (fun ls hl => ?_)
          exact hJ30 x4 hf ls (lv_sub hl [1, 2, 3, 0, 4] rfl)
  refine lv_iconst (v := (0 : Int32)) hx hb dX0_winner_0 (by decide) ?_
  refine lv_istore_n (lv' := [(3, .int (0 : Int32)), (0, .ref q_this), (1, .ref q_p1), (2, .int x2)]) hx hb dX0_winner_1 rfl hl (by decide) rfl (fun ls hl => ?_)
  refine lv_iconst (v := (1 : Int32)) hx hb dX0_winner_2 (by decide) ?_
  refine lv_istore (lv' := [(4, .int (1 : Int32)), (3, .int (0 : Int32)), (0, .ref q_this), (1, .ref q_p1), (2, .int x2)]) hx hb dX0_winner_3 hl (by decide) rfl (fun ls hl => ?_)
  obtain ⟨e5, hp5, hf⟩ := ob hf
  refine hL5 N (0 : Int32) (1 : Int32) e5 hp5 ls (lv_sub hl [2, 3, 4, 1, 0] rfl) (fun  ls hl => ?_)
  have hl : lv_has ls 5 [(0, .ref q_this), (1, .ref q_p1), (2, .int x2), (3, .int e5.1)] := hl
  refine lv_aload_n hx hb dX0_winner_36 rfl (lv_at hl 0 rfl) ?_
  refine p_get (D := (dC, dI)) (ci := 0) (v := .ref q_counts) (C := RX0) (T := TX0) (N := 8) 7 fX0_7 hx hb hG inlX0 hown hK.1 hP 0 rfl rfl (by decide) (hG _ mw_77) rfl dX0_winner_37 ?_
  refine lv_iload_n hx hb dX0_winner_40 rfl (lv_at hl 3 rfl) ?_
  obtain ⟨g6, hf⟩ := og hf
  refine va_iald hx hb hK.1 hP 1 0 rfl rfl g6 dX0_winner_41 ?_
  refine lv_aload_n hx hb dX0_winner_42 rfl (lv_at hl 1 rfl) ?_
  refine lv_iload_n hx hb dX0_winner_43 rfl (lv_at hl 2 rfl) ?_
  refine lv_iconst (v := (4 : Int32)) hx hb dX0_winner_44 (by decide) ?_
  refine lv_idiv hx hb dX0_winner_45 (by decide) ?_
  obtain ⟨u7, hu7, hf⟩ := ob hf
  refine k_Vi (As := [.int (x2 / (4 : Int32))]) (rest := [.int (vcounts e5.1.toNatClampNeg)]) ⟨hx, hb, hml, hown, hts⟩ hK hP [2, 3, 4, 5] rfl (c_X5_needed l dC dI cI cJ cB q_p1 q_p1_members q_p1_moves q_p1_digits q_p1_sizes q_p1_orders q_p1_above q_p1_below q_p1_struck q_p1_lots vp1_blocks vp1_members vp1_above vp1_below (x2 / (4 : Int32)) hu7) (gl_X0_142 hts ⟨(Nat.le_of_ble_eq_true rfl), (Nat.le_of_ble_eq_true rfl)⟩) 2 5 rfl rfl rfl rfl hl.1 rfl (Nat.le_of_ble_eq_true rfl) dX0_winner_46 ⟨Nat.zero_le _, Nat.zero_le _⟩ ?_
  refine lv_icmp_lt (tgt := 56) hx hb dX0_winner_49 (by decide) (fun c8 => ?_) (fun c8 => ?_)
  · replace hf := ot hf c8
    refine lv_iconst (v := (-1 : Int32)) hx hb dX0_winner_56 (by decide) ?_
    have hf := osi hf
    exact x_iR hx hb hr hlocks hf dX0_winner_57
  · replace hf := oe hf c8
    refine lv_iload_n hx hb dX0_winner_52 rfl (lv_at hl 3 rfl) ?_
    refine lv_goto (tgt := 57) hx hb dX0_winner_53 (by decide) ?_
    have hf := osi hf
    exact x_iR hx hb hr hlocks hf dX0_winner_57
def f_X0_goOn_B2 (N : Nat) (vwaiter : Int32) (vwait : Int32) (vp1_blocks : Int32) (vp1_members : Nat → Int32) (vp1_moves : Nat → Int32) (vp1_digits : Nat → Int32) (vp1_sizes : Nat → Int32) (vp1_orders : Nat → Int32) (vp1_above : Nat → Int32) (vp1_below : Nat → Int32) (vp1_struck : Nat → Int32) (vp1_lots : Nat → Int32) (x2 : Int32) (x3 : Int32) (vballots : Int32) (vused : Int32) (vchosen : Int32) (vwrote : Nat → Int32) (vwrites : Nat → Int32) (vcounts : Nat → Int32) : Option ((Int32 × Int32 × Int32 × Int32 × (Nat → Int32) × (Nat → Int32) × (Nat → Int32)) ⊕ (Int32 × Int32 × Int32 × (Nat → Int32) × (Nat → Int32) × (Nat → Int32))) := (if x2 ≤ x3 then some (.inr (vballots, vused, vchosen, vwrote, vwrites, vcounts)) else ((f_X0_isOver vballots vchosen).bind (fun u2 => (if u2 = 0 then ((f_X0_draw N vballots vused vwaiter vwait vp1_blocks vp1_moves vp1_digits vp1_lots).bind (fun u4 => ((f_X0_write N vwaiter vwait vwrote vwrites vcounts vp1_blocks vp1_members vp1_moves vp1_digits vp1_sizes vp1_orders vp1_struck vballots u4.1).bind (fun u5 => ((f_X0_winner N u5.2.2 vp1_blocks vp1_members vp1_above vp1_below vballots).bind (fun u6 => some (.inl ((x3 + (1 : Int32)), (vballots + (1 : Int32)), u4.2, u6, u5.1, u5.2.1, u5.2.2)))))))) else some (.inr (vballots, vused, vchosen, vwrote, vwrites, vcounts))))))
def f_X0_goOn (N : Nat) (vballots : Int32) (vused : Int32) (vchosen : Int32) (vwaiter : Int32) (vwait : Int32) (vwrote : Nat → Int32) (vwrites : Nat → Int32) (vcounts : Nat → Int32) (vp1_blocks : Int32) (vp1_members : Nat → Int32) (vp1_moves : Nat → Int32) (vp1_digits : Nat → Int32) (vp1_sizes : Nat → Int32) (vp1_orders : Nat → Int32) (vp1_above : Nat → Int32) (vp1_below : Nat → Int32) (vp1_struck : Nat → Int32) (vp1_lots : Nat → Int32) (x2 : Int32) : Option (Int32 × Int32 × Int32 × (Nat → Int32) × (Nat → Int32) × (Nat → Int32)) := ((lp (fun s => f_X0_goOn_B2 N vwaiter vwait vp1_blocks vp1_members vp1_moves vp1_digits vp1_sizes vp1_orders vp1_above vp1_below vp1_struck vp1_lots x2 s.1 s.2.1 s.2.2.1 s.2.2.2.1 s.2.2.2.2.1 s.2.2.2.2.2.1 s.2.2.2.2.2.2) N ((0 : Int32), vballots, vused, vchosen, vwrote, vwrites, vcounts)).bind (fun e7 => some e7))
def w_X0_goOn (cI cJ cB : ClassId) (q_this q_p1 q_wrote q_writes q_counts q_p1_members q_p1_moves q_p1_digits q_p1_sizes q_p1_orders q_p1_above q_p1_below q_p1_struck q_p1_lots : Nat) (vballots : Int32) (vused : Int32) (vchosen : Int32) (vwaiter : Int32) (vwait : Int32) (vwrote : Nat → Int32) (vwrites : Nat → Int32) (vcounts : Nat → Int32) (vp1_blocks : Int32) (vp1_members : Nat → Int32) (vp1_moves : Nat → Int32) (vp1_digits : Nat → Int32) (vp1_sizes : Nat → Int32) (vp1_orders : Nat → Int32) (vp1_above : Nat → Int32) (vp1_below : Nat → Int32) (vp1_struck : Nat → Int32) (vp1_lots : Nat → Int32) : va_W := [(q_this, .inr (0, [.int vballots, .int vused, .int vchosen, .int vwaiter, .int vwait, .ref q_wrote, .ref q_writes, .ref q_counts])), (q_wrote, .inl (cI, 6, .inl vwrote)), (q_writes, .inl (cI, 6, .inl vwrites)), (q_counts, .inl (cI, 5, .inl vcounts)), (q_p1, .inr (5, [.int vp1_blocks, .ref q_p1_members, .ref q_p1_moves, .ref q_p1_digits, .ref q_p1_sizes, .ref q_p1_orders, .ref q_p1_above, .ref q_p1_below, .ref q_p1_struck, .ref q_p1_lots])), (q_p1_members, .inl (cI, 6, .inl vp1_members)), (q_p1_moves, .inl (cI, 6, .inl vp1_moves)), (q_p1_digits, .inl (cI, 6, .inl vp1_digits)), (q_p1_sizes, .inl (cI, 6, .inl vp1_sizes)), (q_p1_orders, .inl (cI, 30, .inl vp1_orders)), (q_p1_above, .inl (cI, 8, .inl vp1_above)), (q_p1_below, .inl (cI, 8, .inl vp1_below)), (q_p1_struck, .inl (cI, 5, .inl vp1_struck)), (q_p1_lots, .inl (cI, 16, .inl vp1_lots))]
set_option maxHeartbeats 4000000 in
set_option maxRecDepth 100000 in
theorem c_X0_goOn (l : Launch) (dC : Nat → ClassId) (dI : Nat → Nat → Nat) (cI cJ cB : ClassId) (q_this q_p1 q_wrote q_writes q_counts q_p1_members q_p1_moves q_p1_digits q_p1_sizes q_p1_orders q_p1_above q_p1_below q_p1_struck q_p1_lots : Nat) (vballots : Int32) (vused : Int32) (vchosen : Int32) (vwaiter : Int32) (vwait : Int32) (vwrote : Nat → Int32) (vwrites : Nat → Int32) (vcounts : Nat → Int32) (vp1_blocks : Int32) (vp1_members : Nat → Int32) (vp1_moves : Nat → Int32) (vp1_digits : Nat → Int32) (vp1_sizes : Nat → Int32) (vp1_orders : Nat → Int32) (vp1_above : Nat → Int32) (vp1_below : Nat → Int32) (vp1_struck : Nat → Int32) (vp1_lots : Nat → Int32) (x2 : Int32) (sz : Nat) {N : Nat} {r : Int32 × Int32 × Int32 × (Nat → Int32) × (Nat → Int32) × (Nat → Int32)} (hf : f_X0_goOn N vballots vused vchosen vwaiter vwait vwrote vwrites vcounts vp1_blocks vp1_members vp1_moves vp1_digits vp1_sizes vp1_orders vp1_above vp1_below vp1_struck vp1_lots x2 = some r) : Met l yX0_goOn (Cond.code yX0_goOn cX0_goOn 5 none :: wsL_law) (kR 4) (va_Pc [.ref q_this, .ref q_p1, .int x2] (pW (dC, dI) cI cJ cB (w_X0_goOn cI cJ cB q_this q_p1 q_wrote q_writes q_counts q_p1_members q_p1_moves q_p1_digits q_p1_sizes q_p1_orders q_p1_above q_p1_below q_p1_struck q_p1_lots vballots vused vchosen vwaiter vwait vwrote vwrites vcounts vp1_blocks vp1_members vp1_moves vp1_digits vp1_sizes vp1_orders vp1_above vp1_below vp1_struck vp1_lots) sz)) (qWv (fun w => w = (w_X0_goOn cI cJ cB q_this q_p1 q_wrote q_writes q_counts q_p1_members q_p1_moves q_p1_digits q_p1_sizes q_p1_orders q_p1_above q_p1_below q_p1_struck q_p1_lots r.1 r.2.1 r.2.2.1 vwaiter vwait r.2.2.2.1 r.2.2.2.2.1 r.2.2.2.2.2 vp1_blocks vp1_members vp1_moves vp1_digits vp1_sizes vp1_orders vp1_above vp1_below vp1_struck vp1_lots)) (dC, dI) (va_A (w_X0_goOn cI cJ cB q_this q_p1 q_wrote q_writes q_counts q_p1_members q_p1_moves q_p1_digits q_p1_sizes q_p1_orders q_p1_above q_p1_below q_p1_struck q_p1_lots vballots vused vchosen vwaiter vwait vwrote vwrites vcounts vp1_blocks vp1_members vp1_moves vp1_digits vp1_sizes vp1_orders vp1_above vp1_below vp1_struck vp1_lots) sz)) 0 0 (va_A (w_X0_goOn cI cJ cB q_this q_p1 q_wrote q_writes q_counts q_p1_members q_p1_moves q_p1_digits q_p1_sizes q_p1_orders q_p1_above q_p1_below q_p1_struck q_p1_lots vballots vused vchosen vwaiter vwait vwrote vwrites vcounts vp1_blocks vp1_members vp1_moves vp1_digits vp1_sizes vp1_orders vp1_above vp1_below vp1_struck vp1_lots) sz) := by
  refine k_wr (Qc := fun A => (qWv (fun w => w = (w_X0_goOn cI cJ cB q_this q_p1 q_wrote q_writes q_counts q_p1_members q_p1_moves q_p1_digits q_p1_sizes q_p1_orders q_p1_above q_p1_below q_p1_struck q_p1_lots r.1 r.2.1 r.2.2.1 vwaiter vwait r.2.2.2.1 r.2.2.2.2.1 r.2.2.2.2.2 vp1_blocks vp1_members vp1_moves vp1_digits vp1_sizes vp1_orders vp1_above vp1_below vp1_struck vp1_lots)) (dC, dI) A)) (cc := cX0_goOn) (n := 5) (ret := none) (by decide) (Nat.le_of_ble_eq_true rfl) ?_
  intro p e s m args below meth c ls A hx hb hr hml hts hown hlocks hnm hA hK hP hD hS hl
  have hD : va_D A [(q_this, .inr (0, [.int vballots, .int vused, .int vchosen, .int vwaiter, .int vwait, .ref q_wrote, .ref q_writes, .ref q_counts])), (q_wrote, .inl (cI, 6, .inl vwrote)), (q_writes, .inl (cI, 6, .inl vwrites)), (q_counts, .inl (cI, 5, .inl vcounts)), (q_p1, .inr (5, [.int vp1_blocks, .ref q_p1_members, .ref q_p1_moves, .ref q_p1_digits, .ref q_p1_sizes, .ref q_p1_orders, .ref q_p1_above, .ref q_p1_below, .ref q_p1_struck, .ref q_p1_lots])), (q_p1_members, .inl (cI, 6, .inl vp1_members)), (q_p1_moves, .inl (cI, 6, .inl vp1_moves)), (q_p1_digits, .inl (cI, 6, .inl vp1_digits)), (q_p1_sizes, .inl (cI, 6, .inl vp1_sizes)), (q_p1_orders, .inl (cI, 30, .inl vp1_orders)), (q_p1_above, .inl (cI, 8, .inl vp1_above)), (q_p1_below, .inl (cI, 8, .inl vp1_below)), (q_p1_struck, .inl (cI, 5, .inl vp1_struck)), (q_p1_lots, .inl (cI, 16, .inl vp1_lots))] := hD
  have hP : va_P (dC, dI) classes [(q_this, .inr (0, [.int vballots, .int vused, .int vchosen, .int vwaiter, .int vwait, .ref q_wrote, .ref q_writes, .ref q_counts])), (q_wrote, .inl (cI, 6, .inl vwrote)), (q_writes, .inl (cI, 6, .inl vwrites)), (q_counts, .inl (cI, 5, .inl vcounts)), (q_p1, .inr (5, [.int vp1_blocks, .ref q_p1_members, .ref q_p1_moves, .ref q_p1_digits, .ref q_p1_sizes, .ref q_p1_orders, .ref q_p1_above, .ref q_p1_below, .ref q_p1_struck, .ref q_p1_lots])), (q_p1_members, .inl (cI, 6, .inl vp1_members)), (q_p1_moves, .inl (cI, 6, .inl vp1_moves)), (q_p1_digits, .inl (cI, 6, .inl vp1_digits)), (q_p1_sizes, .inl (cI, 6, .inl vp1_sizes)), (q_p1_orders, .inl (cI, 30, .inl vp1_orders)), (q_p1_above, .inl (cI, 8, .inl vp1_above)), (q_p1_below, .inl (cI, 8, .inl vp1_below)), (q_p1_struck, .inl (cI, 5, .inl vp1_struck)), (q_p1_lots, .inl (cI, 16, .inl vp1_lots))] s.heap := hP
  have hG : ∀ w ∈ wsL_law, w.before args s = true := fun w h => hts w (List.mem_cons_of_mem _ h)
  have hown : s.vm.findClass RX0 = some m.cls := hown
  have hl : lv_has ls 5 [(0, .ref q_this), (1, .ref q_p1), (2, .int x2)] := hl
  unfold f_X0_goOn at hf
  have hL2 : ∀ (n : Nat) (x3 : Int32) (vballots : Int32) (vused : Int32) (vchosen : Int32) (vwrote : Nat → Int32) (vwrites : Nat → Int32) (vcounts : Nat → Int32) (res2 : Int32 × Int32 × Int32 × (Nat → Int32) × (Nat → Int32) × (Nat → Int32)), lp (fun s => f_X0_goOn_B2 N vwaiter vwait vp1_blocks vp1_members vp1_moves vp1_digits vp1_sizes vp1_orders vp1_above vp1_below vp1_struck vp1_lots x2 s.1 s.2.1 s.2.2.1 s.2.2.2.1 s.2.2.2.2.1 s.2.2.2.2.2.1 s.2.2.2.2.2.2) n (x3, vballots, vused, vchosen, vwrote, vwrites, vcounts) = some res2 → ∀ (H : Heap) (locs : List Loc) (ls : Array Slot), va_P (dC, dI) classes [(q_this, .inr (0, [.int vballots, .int vused, .int vchosen, .int vwaiter, .int vwait, .ref q_wrote, .ref q_writes, .ref q_counts])), (q_wrote, .inl (cI, 6, .inl vwrote)), (q_writes, .inl (cI, 6, .inl vwrites)), (q_counts, .inl (cI, 5, .inl vcounts)), (q_p1, .inr (5, [.int vp1_blocks, .ref q_p1_members, .ref q_p1_moves, .ref q_p1_digits, .ref q_p1_sizes, .ref q_p1_orders, .ref q_p1_above, .ref q_p1_below, .ref q_p1_struck, .ref q_p1_lots])), (q_p1_members, .inl (cI, 6, .inl vp1_members)), (q_p1_moves, .inl (cI, 6, .inl vp1_moves)), (q_p1_digits, .inl (cI, 6, .inl vp1_digits)), (q_p1_sizes, .inl (cI, 6, .inl vp1_sizes)), (q_p1_orders, .inl (cI, 30, .inl vp1_orders)), (q_p1_above, .inl (cI, 8, .inl vp1_above)), (q_p1_below, .inl (cI, 8, .inl vp1_below)), (q_p1_struck, .inl (cI, 5, .inl vp1_struck)), (q_p1_lots, .inl (cI, 16, .inl vp1_lots))] H → va_D A [(q_this, .inr (0, [.int vballots, .int vused, .int vchosen, .int vwaiter, .int vwait, .ref q_wrote, .ref q_writes, .ref q_counts])), (q_wrote, .inl (cI, 6, .inl vwrote)), (q_writes, .inl (cI, 6, .inl vwrites)), (q_counts, .inl (cI, 5, .inl vcounts)), (q_p1, .inr (5, [.int vp1_blocks, .ref q_p1_members, .ref q_p1_moves, .ref q_p1_digits, .ref q_p1_sizes, .ref q_p1_orders, .ref q_p1_above, .ref q_p1_below, .ref q_p1_struck, .ref q_p1_lots])), (q_p1_members, .inl (cI, 6, .inl vp1_members)), (q_p1_moves, .inl (cI, 6, .inl vp1_moves)), (q_p1_digits, .inl (cI, 6, .inl vp1_digits)), (q_p1_sizes, .inl (cI, 6, .inl vp1_sizes)), (q_p1_orders, .inl (cI, 30, .inl vp1_orders)), (q_p1_above, .inl (cI, 8, .inl vp1_above)), (q_p1_below, .inl (cI, 8, .inl vp1_below)), (q_p1_struck, .inl (cI, 5, .inl vp1_struck)), (q_p1_lots, .inl (cI, 16, .inl vp1_lots))] → va_S A s.heap H locs → lv_has ls 5 [(0, .ref q_this), (1, .ref q_p1), (2, .int x2), (3, .int x3)] → (∀ q9 : Int32 × Int32 × Int32 × (Nat → Int32) × (Nat → Int32) × (Nat → Int32), res2 = q9 → q9 = r) → W p l e (kR 4) s m args below meth c H locs 0 0 (MQ below (qWv (fun w => w = (w_X0_goOn cI cJ cB q_this q_p1 q_wrote q_writes q_counts q_p1_members q_p1_moves q_p1_digits q_p1_sizes q_p1_orders q_p1_above q_p1_below q_p1_struck q_p1_lots r.1 r.2.1 r.2.2.1 vwaiter vwait r.2.2.2.1 r.2.2.2.2.1 r.2.2.2.2.2 vp1_blocks vp1_members vp1_moves vp1_digits vp1_sizes vp1_orders vp1_above vp1_below vp1_struck vp1_lots)) (dC, dI) A) args s 0 0 A) (F0 m 2 ls []) := by
    intro n
    induction n with
    | zero => intro x3 vballots vused vchosen vwrote vwrites vcounts res2 h9; exact (lp_zero h9).elim
    | succ n ih =>
      intro x3 vballots vused vchosen vwrote vwrites vcounts res2 h9 H locs ls hP hD hS hl KR
      obtain ⟨o2, hf, hnext, hexit⟩ := lp_succ h9
      have hf : f_X0_goOn_B2 N vwaiter vwait vp1_blocks vp1_members vp1_moves vp1_digits vp1_sizes vp1_orders vp1_above vp1_below vp1_struck vp1_lots x2 x3 vballots vused vchosen vwrote vwrites vcounts = some o2 := hf
      unfold f_X0_goOn_B2 at hf
      refine lv_iload_n hx hb dX0_goOn_2 rfl (lv_at hl 3 rfl) ?_
      refine lv_iload_n hx hb dX0_goOn_3 rfl (lv_at hl 2 rfl) ?_
      refine lv_icmp_ge (tgt := 61) hx hb dX0_goOn_4 (by decide) (fun c1 => ?_) (fun c1 => ?_)
      · replace hf := ot hf c1
        have hf := KR _ (hexit _ (osi hf).symm).symm
        exact x_vW hx hb hr hlocks hP hD hS (by have h9 := congrArg (fun z : Int32 × Int32 × Int32 × (Nat → Int32) × (Nat → Int32) × (Nat → Int32) => (w_X0_goOn cI cJ cB q_this q_p1 q_wrote q_writes q_counts q_p1_members q_p1_moves q_p1_digits q_p1_sizes q_p1_orders q_p1_above q_p1_below q_p1_struck q_p1_lots z.1 z.2.1 z.2.2.1 vwaiter vwait z.2.2.2.1 z.2.2.2.2.1 z.2.2.2.2.2 vp1_blocks vp1_members vp1_moves vp1_digits vp1_sizes vp1_orders vp1_above vp1_below vp1_struck vp1_lots)) hf; exact h9) dX0_goOn_61
      · replace hf := oe hf c1
        refine lv_aload_n hx hb dX0_goOn_7 rfl (lv_at hl 0 rfl) ?_
        obtain ⟨u2, hu2, hf⟩ := ob hf
        refine k_Vi (As := []) (rest := []) ⟨hx, hb, hml, hown, hts⟩ hK hP [0] rfl (c_X0_isOver l dC dI cI cJ cB q_this q_wrote q_writes q_counts vballots vused vchosen vwaiter vwait hu2) (gl_X0_62 hts ⟨(Nat.le_of_ble_eq_true rfl), (Nat.le_of_ble_eq_true rfl)⟩) 0 0 rfl rfl rfl rfl hl.1 rfl (Nat.le_of_ble_eq_true rfl) dX0_goOn_8 ⟨Nat.zero_le _, Nat.zero_le _⟩ ?_
        refine lv_if_ne (tgt := 61) hx hb dX0_goOn_11 (by decide) (fun c3 => ?_) (fun c3 => ?_)
        · replace hf := oe hf c3
          have hf := KR _ (hexit _ (osi hf).symm).symm
          exact x_vW hx hb hr hlocks hP hD hS (by have h9 := congrArg (fun z : Int32 × Int32 × Int32 × (Nat → Int32) × (Nat → Int32) × (Nat → Int32) => (w_X0_goOn cI cJ cB q_this q_p1 q_wrote q_writes q_counts q_p1_members q_p1_moves q_p1_digits q_p1_sizes q_p1_orders q_p1_above q_p1_below q_p1_struck q_p1_lots z.1 z.2.1 z.2.2.1 vwaiter vwait z.2.2.2.1 z.2.2.2.2.1 z.2.2.2.2.2 vp1_blocks vp1_members vp1_moves vp1_digits vp1_sizes vp1_orders vp1_above vp1_below vp1_struck vp1_lots)) hf; exact h9) dX0_goOn_61
        · replace hf := ot hf c3
          refine lv_aload_n hx hb dX0_goOn_14 rfl (lv_at hl 0 rfl) ?_
          refine lv_aload_n hx hb dX0_goOn_15 rfl (lv_at hl 1 rfl) ?_
          obtain ⟨u4, hu4, hf⟩ := ob hf
          refine k_VWi (As := [.ref q_p1]) (rest := []) (wr := [(q_wrote, .inl (cI, 6, .inl vwrote)), (q_writes, .inl (cI, 6, .inl vwrites)), (q_counts, .inl (cI, 5, .inl vcounts)), (q_p1_members, .inl (cI, 6, .inl vp1_members)), (q_p1_sizes, .inl (cI, 6, .inl vp1_sizes)), (q_p1_orders, .inl (cI, 30, .inl vp1_orders)), (q_p1_above, .inl (cI, 8, .inl vp1_above)), (q_p1_below, .inl (cI, 8, .inl vp1_below)), (q_p1_struck, .inl (cI, 5, .inl vp1_struck))]) ⟨hx, hb, hml, hown, hts⟩ hK hP hD hS hA [0, 4, 6, 7, 13] [1, 2, 3, 5, 8, 9, 10, 11, 12] rfl rfl (by decide) (by decide) (by decide) (c_X0_draw l dC dI cI cJ cB q_this q_p1 q_wrote q_writes q_counts q_p1_members q_p1_moves q_p1_digits q_p1_sizes q_p1_orders q_p1_above q_p1_below q_p1_struck q_p1_lots vballots vused vchosen vwaiter vwait vp1_blocks vp1_moves vp1_digits vp1_lots _ hu4) (gl_X0_66 hts ⟨(Nat.le_of_ble_eq_true rfl), (Nat.le_of_ble_eq_true rfl)⟩) 0 0 rfl rfl rfl rfl hl.1 rfl (Nat.le_of_ble_eq_true rfl) dX0_goOn_16 ⟨(Nat.le_of_ble_eq_true rfl), (Nat.le_of_ble_eq_true rfl)⟩ (fun w H locs hE hP hD hS => ?_)
          subst hE
          have hP : va_P (dC, dI) classes [(q_wrote, .inl (cI, 6, .inl vwrote)), (q_writes, .inl (cI, 6, .inl vwrites)), (q_counts, .inl (cI, 5, .inl vcounts)), (q_p1_members, .inl (cI, 6, .inl vp1_members)), (q_p1_sizes, .inl (cI, 6, .inl vp1_sizes)), (q_p1_orders, .inl (cI, 30, .inl vp1_orders)), (q_p1_above, .inl (cI, 8, .inl vp1_above)), (q_p1_below, .inl (cI, 8, .inl vp1_below)), (q_p1_struck, .inl (cI, 5, .inl vp1_struck)), (q_this, .inr (0, [.int vballots, .int u4.2, .int vchosen, .int vwaiter, .int vwait, .ref q_wrote, .ref q_writes, .ref q_counts])), (q_p1, .inr (5, [.int vp1_blocks, .ref q_p1_members, .ref q_p1_moves, .ref q_p1_digits, .ref q_p1_sizes, .ref q_p1_orders, .ref q_p1_above, .ref q_p1_below, .ref q_p1_struck, .ref q_p1_lots])), (q_p1_moves, .inl (cI, 6, .inl vp1_moves)), (q_p1_digits, .inl (cI, 6, .inl vp1_digits)), (q_p1_lots, .inl (cI, 16, .inl vp1_lots))] H := hP
          have hD : va_D A [(q_wrote, .inl (cI, 6, .inl vwrote)), (q_writes, .inl (cI, 6, .inl vwrites)), (q_counts, .inl (cI, 5, .inl vcounts)), (q_p1_members, .inl (cI, 6, .inl vp1_members)), (q_p1_sizes, .inl (cI, 6, .inl vp1_sizes)), (q_p1_orders, .inl (cI, 30, .inl vp1_orders)), (q_p1_above, .inl (cI, 8, .inl vp1_above)), (q_p1_below, .inl (cI, 8, .inl vp1_below)), (q_p1_struck, .inl (cI, 5, .inl vp1_struck)), (q_this, .inr (0, [.int vballots, .int u4.2, .int vchosen, .int vwaiter, .int vwait, .ref q_wrote, .ref q_writes, .ref q_counts])), (q_p1, .inr (5, [.int vp1_blocks, .ref q_p1_members, .ref q_p1_moves, .ref q_p1_digits, .ref q_p1_sizes, .ref q_p1_orders, .ref q_p1_above, .ref q_p1_below, .ref q_p1_struck, .ref q_p1_lots])), (q_p1_moves, .inl (cI, 6, .inl vp1_moves)), (q_p1_digits, .inl (cI, 6, .inl vp1_digits)), (q_p1_lots, .inl (cI, 16, .inl vp1_lots))] := hD
          refine lv_istore (lv' := [(4, .int u4.1), (0, .ref q_this), (1, .ref q_p1), (2, .int x2), (3, .int x3)]) hx hb dX0_goOn_19 hl (by decide) rfl (fun ls hl => ?_)
          refine lv_aload_n hx hb dX0_goOn_21 rfl (lv_at hl 1 rfl) ?_
          refine lv_aload_n hx hb dX0_goOn_22 rfl (lv_at hl 2 rfl) ?_
          refine lv_aload_n hx hb dX0_goOn_23 rfl (lv_at hl 1 rfl) ?_
          refine p_get (D := (dC, dI)) (ci := 0) (v := .int vballots) (C := RX0) (T := TX0) (N := 8) 0 fX0_0 hx hb hG inlX0 hown hK.1 hP 9 rfl rfl (by decide) (hG _ mw_70) rfl dX0_goOn_24 ?_
          refine lv_iload hx hb dX0_goOn_27 (lv_at hl 0 rfl) ?_
          obtain ⟨u5, hu5, hf⟩ := ob hf
          refine k_VWv (As := [.ref q_p1, .int vballots, .int u4.1]) (rest := []) (wr := [(q_p1_above, .inl (cI, 8, .inl vp1_above)), (q_p1_below, .inl (cI, 8, .inl vp1_below)), (q_p1_lots, .inl (cI, 16, .inl vp1_lots))]) ⟨hx, hb, hml, hown, hts⟩ hK hP hD hS hA [9, 0, 1, 2, 10, 3, 11, 12, 4, 5, 8] [6, 7, 13] rfl rfl (by decide) (by decide) (by decide) (c_X0_write l dC dI cI cJ cB q_this q_p1 q_wrote q_writes q_counts q_p1_members q_p1_moves q_p1_digits q_p1_sizes q_p1_orders q_p1_above q_p1_below q_p1_struck q_p1_lots vballots u4.2 vchosen vwaiter vwait vwrote vwrites vcounts vp1_blocks vp1_members vp1_moves vp1_digits vp1_sizes vp1_orders vp1_struck vballots u4.1 _ hu5) (gl_X0_70 hts ⟨(Nat.le_of_ble_eq_true rfl), (Nat.le_of_ble_eq_true rfl)⟩) 9 0 rfl rfl rfl rfl hl.1 rfl (Nat.le_of_ble_eq_true rfl) dX0_goOn_29 ⟨(Nat.le_of_ble_eq_true rfl), (Nat.le_of_ble_eq_true rfl)⟩ (fun w H locs hE hP hD hS => ?_)
          subst hE
          have hP : va_P (dC, dI) classes [(q_p1_above, .inl (cI, 8, .inl vp1_above)), (q_p1_below, .inl (cI, 8, .inl vp1_below)), (q_p1_lots, .inl (cI, 16, .inl vp1_lots)), (q_this, .inr (0, [.int vballots, .int u4.2, .int vchosen, .int vwaiter, .int vwait, .ref q_wrote, .ref q_writes, .ref q_counts])), (q_wrote, .inl (cI, 6, .inl u5.1)), (q_writes, .inl (cI, 6, .inl u5.2.1)), (q_counts, .inl (cI, 5, .inl u5.2.2)), (q_p1, .inr (5, [.int vp1_blocks, .ref q_p1_members, .ref q_p1_moves, .ref q_p1_digits, .ref q_p1_sizes, .ref q_p1_orders, .ref q_p1_above, .ref q_p1_below, .ref q_p1_struck, .ref q_p1_lots])), (q_p1_members, .inl (cI, 6, .inl vp1_members)), (q_p1_moves, .inl (cI, 6, .inl vp1_moves)), (q_p1_digits, .inl (cI, 6, .inl vp1_digits)), (q_p1_sizes, .inl (cI, 6, .inl vp1_sizes)), (q_p1_orders, .inl (cI, 30, .inl vp1_orders)), (q_p1_struck, .inl (cI, 5, .inl vp1_struck))] H := hP
          have hD : va_D A [(q_p1_above, .inl (cI, 8, .inl vp1_above)), (q_p1_below, .inl (cI, 8, .inl vp1_below)), (q_p1_lots, .inl (cI, 16, .inl vp1_lots)), (q_this, .inr (0, [.int vballots, .int u4.2, .int vchosen, .int vwaiter, .int vwait, .ref q_wrote, .ref q_writes, .ref q_counts])), (q_wrote, .inl (cI, 6, .inl u5.1)), (q_writes, .inl (cI, 6, .inl u5.2.1)), (q_counts, .inl (cI, 5, .inl u5.2.2)), (q_p1, .inr (5, [.int vp1_blocks, .ref q_p1_members, .ref q_p1_moves, .ref q_p1_digits, .ref q_p1_sizes, .ref q_p1_orders, .ref q_p1_above, .ref q_p1_below, .ref q_p1_struck, .ref q_p1_lots])), (q_p1_members, .inl (cI, 6, .inl vp1_members)), (q_p1_moves, .inl (cI, 6, .inl vp1_moves)), (q_p1_digits, .inl (cI, 6, .inl vp1_digits)), (q_p1_sizes, .inl (cI, 6, .inl vp1_sizes)), (q_p1_orders, .inl (cI, 30, .inl vp1_orders)), (q_p1_struck, .inl (cI, 5, .inl vp1_struck))] := hD
          refine lv_aload_n hx hb dX0_goOn_32 rfl (lv_at hl 1 rfl) ?_
          refine lv_aload_n hx hb dX0_goOn_33 rfl (lv_at hl 1 rfl) ?_
          refine lv_aload_n hx hb dX0_goOn_34 rfl (lv_at hl 2 rfl) ?_
          refine lv_aload_n hx hb dX0_goOn_35 rfl (lv_at hl 1 rfl) ?_
          refine p_get (D := (dC, dI)) (ci := 0) (v := .int vballots) (C := RX0) (T := TX0) (N := 8) 0 fX0_0 hx hb hG inlX0 hown hK.1 hP 3 rfl rfl (by decide) (hG _ mw_70) rfl dX0_goOn_36 ?_
          obtain ⟨u6, hu6, hf⟩ := ob hf
          refine k_Vi (As := [.ref q_p1, .int vballots]) (rest := [.ref q_this]) ⟨hx, hb, hml, hown, hts⟩ hK hP [3, 6, 7, 8, 0, 1] rfl (c_X0_winner l dC dI cI cJ cB q_this q_p1 q_wrote q_writes q_counts q_p1_members q_p1_moves q_p1_digits q_p1_sizes q_p1_orders q_p1_above q_p1_below q_p1_struck q_p1_lots vballots u4.2 vchosen vwaiter vwait u5.2.2 vp1_blocks vp1_members vp1_above vp1_below vballots hu6) (gl_X0_74 hts ⟨(Nat.le_of_ble_eq_true rfl), (Nat.le_of_ble_eq_true rfl)⟩) 3 0 rfl rfl rfl rfl hl.1 rfl (Nat.le_of_ble_eq_true rfl) dX0_goOn_39 ⟨Nat.zero_le _, Nat.zero_le _⟩ ?_
          refine p_put (D := (dC, dI)) (ci := 0) (v := .int u6) (ty := .int) (C := RX0) (T := TX0) (N := 8) 2 fX0_2 hx hb hG inlX0 tyX0 tyX0_ok nmX0 hown hK.1 hP hD hS 3 rfl rfl (by decide) (hG _ mw_72) rfl (by decide +kernel) rfl rfl (Nat.le_of_ble_eq_true rfl) dX0_goOn_42 (fun H locs hP hD hS => ?_)
          have hP : va_P (dC, dI) classes [(q_p1_above, .inl (cI, 8, .inl vp1_above)), (q_p1_below, .inl (cI, 8, .inl vp1_below)), (q_p1_lots, .inl (cI, 16, .inl vp1_lots)), (q_this, .inr (0, [.int vballots, .int u4.2, .int u6, .int vwaiter, .int vwait, .ref q_wrote, .ref q_writes, .ref q_counts])), (q_wrote, .inl (cI, 6, .inl u5.1)), (q_writes, .inl (cI, 6, .inl u5.2.1)), (q_counts, .inl (cI, 5, .inl u5.2.2)), (q_p1, .inr (5, [.int vp1_blocks, .ref q_p1_members, .ref q_p1_moves, .ref q_p1_digits, .ref q_p1_sizes, .ref q_p1_orders, .ref q_p1_above, .ref q_p1_below, .ref q_p1_struck, .ref q_p1_lots])), (q_p1_members, .inl (cI, 6, .inl vp1_members)), (q_p1_moves, .inl (cI, 6, .inl vp1_moves)), (q_p1_digits, .inl (cI, 6, .inl vp1_digits)), (q_p1_sizes, .inl (cI, 6, .inl vp1_sizes)), (q_p1_orders, .inl (cI, 30, .inl vp1_orders)), (q_p1_struck, .inl (cI, 5, .inl vp1_struck))] H := hP
          have hD : va_D A [(q_p1_above, .inl (cI, 8, .inl vp1_above)), (q_p1_below, .inl (cI, 8, .inl vp1_below)), (q_p1_lots, .inl (cI, 16, .inl vp1_lots)), (q_this, .inr (0, [.int vballots, .int u4.2, .int u6, .int vwaiter, .int vwait, .ref q_wrote, .ref q_writes, .ref q_counts])), (q_wrote, .inl (cI, 6, .inl u5.1)), (q_writes, .inl (cI, 6, .inl u5.2.1)), (q_counts, .inl (cI, 5, .inl u5.2.2)), (q_p1, .inr (5, [.int vp1_blocks, .ref q_p1_members, .ref q_p1_moves, .ref q_p1_digits, .ref q_p1_sizes, .ref q_p1_orders, .ref q_p1_above, .ref q_p1_below, .ref q_p1_struck, .ref q_p1_lots])), (q_p1_members, .inl (cI, 6, .inl vp1_members)), (q_p1_moves, .inl (cI, 6, .inl vp1_moves)), (q_p1_digits, .inl (cI, 6, .inl vp1_digits)), (q_p1_sizes, .inl (cI, 6, .inl vp1_sizes)), (q_p1_orders, .inl (cI, 30, .inl vp1_orders)), (q_p1_struck, .inl (cI, 5, .inl vp1_struck))] := hD
          refine lv_aload_n hx hb dX0_goOn_45 rfl (lv_at hl 1 rfl) ?_
          refine lv_dup hx hb dX0_goOn_46 rfl ?_
          refine p_get (D := (dC, dI)) (ci := 0) (v := .int vballots) (C := RX0) (T := TX0) (N := 8) 0 fX0_0 hx hb hG inlX0 hown hK.1 hP 3 rfl rfl (by decide) (hG _ mw_70) rfl dX0_goOn_47 ?_
          refine lv_iconst (v := (1 : Int32)) hx hb dX0_goOn_50 (by decide) ?_
          refine lv_iadd hx hb dX0_goOn_51 ?_
          refine p_put (D := (dC, dI)) (ci := 0) (v := .int (vballots + (1 : Int32))) (ty := .int) (C := RX0) (T := TX0) (N := 8) 0 fX0_0 hx hb hG inlX0 tyX0 tyX0_ok nmX0 hown hK.1 hP hD hS 3 rfl rfl (by decide) (hG _ mw_70) rfl (by decide +kernel) rfl rfl (Nat.le_of_ble_eq_true rfl) dX0_goOn_52 (fun H locs hP hD hS => ?_)
          have hP : va_P (dC, dI) classes [(q_p1_above, .inl (cI, 8, .inl vp1_above)), (q_p1_below, .inl (cI, 8, .inl vp1_below)), (q_p1_lots, .inl (cI, 16, .inl vp1_lots)), (q_this, .inr (0, [.int (vballots + (1 : Int32)), .int u4.2, .int u6, .int vwaiter, .int vwait, .ref q_wrote, .ref q_writes, .ref q_counts])), (q_wrote, .inl (cI, 6, .inl u5.1)), (q_writes, .inl (cI, 6, .inl u5.2.1)), (q_counts, .inl (cI, 5, .inl u5.2.2)), (q_p1, .inr (5, [.int vp1_blocks, .ref q_p1_members, .ref q_p1_moves, .ref q_p1_digits, .ref q_p1_sizes, .ref q_p1_orders, .ref q_p1_above, .ref q_p1_below, .ref q_p1_struck, .ref q_p1_lots])), (q_p1_members, .inl (cI, 6, .inl vp1_members)), (q_p1_moves, .inl (cI, 6, .inl vp1_moves)), (q_p1_digits, .inl (cI, 6, .inl vp1_digits)), (q_p1_sizes, .inl (cI, 6, .inl vp1_sizes)), (q_p1_orders, .inl (cI, 30, .inl vp1_orders)), (q_p1_struck, .inl (cI, 5, .inl vp1_struck))] H := hP
          have hD : va_D A [(q_p1_above, .inl (cI, 8, .inl vp1_above)), (q_p1_below, .inl (cI, 8, .inl vp1_below)), (q_p1_lots, .inl (cI, 16, .inl vp1_lots)), (q_this, .inr (0, [.int (vballots + (1 : Int32)), .int u4.2, .int u6, .int vwaiter, .int vwait, .ref q_wrote, .ref q_writes, .ref q_counts])), (q_wrote, .inl (cI, 6, .inl u5.1)), (q_writes, .inl (cI, 6, .inl u5.2.1)), (q_counts, .inl (cI, 5, .inl u5.2.2)), (q_p1, .inr (5, [.int vp1_blocks, .ref q_p1_members, .ref q_p1_moves, .ref q_p1_digits, .ref q_p1_sizes, .ref q_p1_orders, .ref q_p1_above, .ref q_p1_below, .ref q_p1_struck, .ref q_p1_lots])), (q_p1_members, .inl (cI, 6, .inl vp1_members)), (q_p1_moves, .inl (cI, 6, .inl vp1_moves)), (q_p1_digits, .inl (cI, 6, .inl vp1_digits)), (q_p1_sizes, .inl (cI, 6, .inl vp1_sizes)), (q_p1_orders, .inl (cI, 30, .inl vp1_orders)), (q_p1_struck, .inl (cI, 5, .inl vp1_struck))] := hD
          refine lv_iinc (v := (x3 + (1 : Int32))) (lv' := [(3, .int (x3 + (1 : Int32))), (4, .int u4.1), (0, .ref q_this), (1, .ref q_p1), (2, .int x2)]) hx hb dX0_goOn_55 hl (k := 4) rfl rfl (by decide) rfl (fun ls hl => ?_)
          refine lv_goto (tgt := 2) hx hb dX0_goOn_58 (by decide) ?_
          exact ih (x3 + (1 : Int32)) (vballots + (1 : Int32)) u4.2 u6 u5.1 u5.2.1 u5.2.2 res2 (hnext _ (osi hf).symm) _ _ ls (hP.sub [3, 4, 5, 6, 7, 8, 9, 10, 11, 12, 0, 1, 13, 2] rfl) (hD.sub [3, 4, 5, 6, 7, 8, 9, 10, 11, 12, 0, 1, 13, 2] (by decide) rfl) hS (lv_sub hl [2, 3, 4, 0] rfl) KR
  refine lv_iconst (v := (0 : Int32)) hx hb dX0_goOn_0 (by decide) ?_
  refine lv_istore_n (lv' := [(3, .int (0 : Int32)), (0, .ref q_this), (1, .ref q_p1), (2, .int x2)]) hx hb dX0_goOn_1 rfl hl (by decide) rfl (fun ls hl => ?_)
  obtain ⟨e7, hp7, hf⟩ := ob hf
  exact hL2 N (0 : Int32) vballots vused vchosen vwrote vwrites vcounts e7 hp7 _ _ ls hP hD hS (lv_sub hl [1, 2, 3, 0] rfl) (fun q9 h9 => by subst h9; exact osi hf)
def f_X0_goAll (N : Nat) (vwrote : Nat → Int32) (vwrites : Nat → Int32) (vcounts : Nat → Int32) (vp1_blocks : Int32) (vp1_members : Nat → Int32) (vp1_moves : Nat → Int32) (vp1_digits : Nat → Int32) (vp1_sizes : Nat → Int32) (vp1_orders : Nat → Int32) (vp1_above : Nat → Int32) (vp1_below : Nat → Int32) (vp1_struck : Nat → Int32) (vp1_lots : Nat → Int32) : Option (Int32 × Int32 × Int32 × Int32 × Int32 × (Nat → Int32) × (Nat → Int32) × (Nat → Int32)) := ((f_X0_restart N vwrote vcounts).bind (fun u1 => ((f_X0_goOn N u1.1 u1.2.1 u1.2.2.1 u1.2.2.2.1 u1.2.2.2.2.1 u1.2.2.2.2.2.1 vwrites u1.2.2.2.2.2.2 vp1_blocks vp1_members vp1_moves vp1_digits vp1_sizes vp1_orders vp1_above vp1_below vp1_struck vp1_lots (32 : Int32)).bind (fun u2 => some (u2.1, u2.2.1, u2.2.2.1, u1.2.2.2.1, u1.2.2.2.2.1, u2.2.2.2.1, u2.2.2.2.2.1, u2.2.2.2.2.2)))))
def w_X0_goAll (cI cJ cB : ClassId) (q_this q_p1 q_wrote q_writes q_counts q_p1_members q_p1_moves q_p1_digits q_p1_sizes q_p1_orders q_p1_above q_p1_below q_p1_struck q_p1_lots : Nat) (vballots : Int32) (vused : Int32) (vchosen : Int32) (vwaiter : Int32) (vwait : Int32) (vwrote : Nat → Int32) (vwrites : Nat → Int32) (vcounts : Nat → Int32) (vp1_blocks : Int32) (vp1_members : Nat → Int32) (vp1_moves : Nat → Int32) (vp1_digits : Nat → Int32) (vp1_sizes : Nat → Int32) (vp1_orders : Nat → Int32) (vp1_above : Nat → Int32) (vp1_below : Nat → Int32) (vp1_struck : Nat → Int32) (vp1_lots : Nat → Int32) : va_W := [(q_this, .inr (0, [.int vballots, .int vused, .int vchosen, .int vwaiter, .int vwait, .ref q_wrote, .ref q_writes, .ref q_counts])), (q_wrote, .inl (cI, 6, .inl vwrote)), (q_writes, .inl (cI, 6, .inl vwrites)), (q_counts, .inl (cI, 5, .inl vcounts)), (q_p1, .inr (5, [.int vp1_blocks, .ref q_p1_members, .ref q_p1_moves, .ref q_p1_digits, .ref q_p1_sizes, .ref q_p1_orders, .ref q_p1_above, .ref q_p1_below, .ref q_p1_struck, .ref q_p1_lots])), (q_p1_members, .inl (cI, 6, .inl vp1_members)), (q_p1_moves, .inl (cI, 6, .inl vp1_moves)), (q_p1_digits, .inl (cI, 6, .inl vp1_digits)), (q_p1_sizes, .inl (cI, 6, .inl vp1_sizes)), (q_p1_orders, .inl (cI, 30, .inl vp1_orders)), (q_p1_above, .inl (cI, 8, .inl vp1_above)), (q_p1_below, .inl (cI, 8, .inl vp1_below)), (q_p1_struck, .inl (cI, 5, .inl vp1_struck)), (q_p1_lots, .inl (cI, 16, .inl vp1_lots))]
set_option maxHeartbeats 4000000 in
set_option maxRecDepth 100000 in
theorem c_X0_goAll (l : Launch) (dC : Nat → ClassId) (dI : Nat → Nat → Nat) (cI cJ cB : ClassId) (q_this q_p1 q_wrote q_writes q_counts q_p1_members q_p1_moves q_p1_digits q_p1_sizes q_p1_orders q_p1_above q_p1_below q_p1_struck q_p1_lots : Nat) (vballots : Int32) (vused : Int32) (vchosen : Int32) (vwaiter : Int32) (vwait : Int32) (vwrote : Nat → Int32) (vwrites : Nat → Int32) (vcounts : Nat → Int32) (vp1_blocks : Int32) (vp1_members : Nat → Int32) (vp1_moves : Nat → Int32) (vp1_digits : Nat → Int32) (vp1_sizes : Nat → Int32) (vp1_orders : Nat → Int32) (vp1_above : Nat → Int32) (vp1_below : Nat → Int32) (vp1_struck : Nat → Int32) (vp1_lots : Nat → Int32) (sz : Nat) {N : Nat} {r : Int32 × Int32 × Int32 × Int32 × Int32 × (Nat → Int32) × (Nat → Int32) × (Nat → Int32)} (hf : f_X0_goAll N vwrote vwrites vcounts vp1_blocks vp1_members vp1_moves vp1_digits vp1_sizes vp1_orders vp1_above vp1_below vp1_struck vp1_lots = some r) : Met l yX0_goAll (Cond.code yX0_goAll cX0_goAll 2 none :: wsL_law) (kR 5) (va_Pc [.ref q_this, .ref q_p1] (pW (dC, dI) cI cJ cB (w_X0_goAll cI cJ cB q_this q_p1 q_wrote q_writes q_counts q_p1_members q_p1_moves q_p1_digits q_p1_sizes q_p1_orders q_p1_above q_p1_below q_p1_struck q_p1_lots vballots vused vchosen vwaiter vwait vwrote vwrites vcounts vp1_blocks vp1_members vp1_moves vp1_digits vp1_sizes vp1_orders vp1_above vp1_below vp1_struck vp1_lots) sz)) (qWv (fun w => w = (w_X0_goAll cI cJ cB q_this q_p1 q_wrote q_writes q_counts q_p1_members q_p1_moves q_p1_digits q_p1_sizes q_p1_orders q_p1_above q_p1_below q_p1_struck q_p1_lots r.1 r.2.1 r.2.2.1 r.2.2.2.1 r.2.2.2.2.1 r.2.2.2.2.2.1 r.2.2.2.2.2.2.1 r.2.2.2.2.2.2.2 vp1_blocks vp1_members vp1_moves vp1_digits vp1_sizes vp1_orders vp1_above vp1_below vp1_struck vp1_lots)) (dC, dI) (va_A (w_X0_goAll cI cJ cB q_this q_p1 q_wrote q_writes q_counts q_p1_members q_p1_moves q_p1_digits q_p1_sizes q_p1_orders q_p1_above q_p1_below q_p1_struck q_p1_lots vballots vused vchosen vwaiter vwait vwrote vwrites vcounts vp1_blocks vp1_members vp1_moves vp1_digits vp1_sizes vp1_orders vp1_above vp1_below vp1_struck vp1_lots) sz)) 0 0 (va_A (w_X0_goAll cI cJ cB q_this q_p1 q_wrote q_writes q_counts q_p1_members q_p1_moves q_p1_digits q_p1_sizes q_p1_orders q_p1_above q_p1_below q_p1_struck q_p1_lots vballots vused vchosen vwaiter vwait vwrote vwrites vcounts vp1_blocks vp1_members vp1_moves vp1_digits vp1_sizes vp1_orders vp1_above vp1_below vp1_struck vp1_lots) sz) := by
  refine k_wr (Qc := fun A => (qWv (fun w => w = (w_X0_goAll cI cJ cB q_this q_p1 q_wrote q_writes q_counts q_p1_members q_p1_moves q_p1_digits q_p1_sizes q_p1_orders q_p1_above q_p1_below q_p1_struck q_p1_lots r.1 r.2.1 r.2.2.1 r.2.2.2.1 r.2.2.2.2.1 r.2.2.2.2.2.1 r.2.2.2.2.2.2.1 r.2.2.2.2.2.2.2 vp1_blocks vp1_members vp1_moves vp1_digits vp1_sizes vp1_orders vp1_above vp1_below vp1_struck vp1_lots)) (dC, dI) A)) (cc := cX0_goAll) (n := 2) (ret := none) (by decide) (Nat.le_of_ble_eq_true rfl) ?_
  intro p e s m args below meth c ls A hx hb hr hml hts hown hlocks hnm hA hK hP hD hS hl
  have hD : va_D A [(q_this, .inr (0, [.int vballots, .int vused, .int vchosen, .int vwaiter, .int vwait, .ref q_wrote, .ref q_writes, .ref q_counts])), (q_wrote, .inl (cI, 6, .inl vwrote)), (q_writes, .inl (cI, 6, .inl vwrites)), (q_counts, .inl (cI, 5, .inl vcounts)), (q_p1, .inr (5, [.int vp1_blocks, .ref q_p1_members, .ref q_p1_moves, .ref q_p1_digits, .ref q_p1_sizes, .ref q_p1_orders, .ref q_p1_above, .ref q_p1_below, .ref q_p1_struck, .ref q_p1_lots])), (q_p1_members, .inl (cI, 6, .inl vp1_members)), (q_p1_moves, .inl (cI, 6, .inl vp1_moves)), (q_p1_digits, .inl (cI, 6, .inl vp1_digits)), (q_p1_sizes, .inl (cI, 6, .inl vp1_sizes)), (q_p1_orders, .inl (cI, 30, .inl vp1_orders)), (q_p1_above, .inl (cI, 8, .inl vp1_above)), (q_p1_below, .inl (cI, 8, .inl vp1_below)), (q_p1_struck, .inl (cI, 5, .inl vp1_struck)), (q_p1_lots, .inl (cI, 16, .inl vp1_lots))] := hD
  have hP : va_P (dC, dI) classes [(q_this, .inr (0, [.int vballots, .int vused, .int vchosen, .int vwaiter, .int vwait, .ref q_wrote, .ref q_writes, .ref q_counts])), (q_wrote, .inl (cI, 6, .inl vwrote)), (q_writes, .inl (cI, 6, .inl vwrites)), (q_counts, .inl (cI, 5, .inl vcounts)), (q_p1, .inr (5, [.int vp1_blocks, .ref q_p1_members, .ref q_p1_moves, .ref q_p1_digits, .ref q_p1_sizes, .ref q_p1_orders, .ref q_p1_above, .ref q_p1_below, .ref q_p1_struck, .ref q_p1_lots])), (q_p1_members, .inl (cI, 6, .inl vp1_members)), (q_p1_moves, .inl (cI, 6, .inl vp1_moves)), (q_p1_digits, .inl (cI, 6, .inl vp1_digits)), (q_p1_sizes, .inl (cI, 6, .inl vp1_sizes)), (q_p1_orders, .inl (cI, 30, .inl vp1_orders)), (q_p1_above, .inl (cI, 8, .inl vp1_above)), (q_p1_below, .inl (cI, 8, .inl vp1_below)), (q_p1_struck, .inl (cI, 5, .inl vp1_struck)), (q_p1_lots, .inl (cI, 16, .inl vp1_lots))] s.heap := hP
  have hG : ∀ w ∈ wsL_law, w.before args s = true := fun w h => hts w (List.mem_cons_of_mem _ h)
  have hown : s.vm.findClass RX0 = some m.cls := hown
  have hl : lv_has ls 2 [(0, .ref q_this), (1, .ref q_p1)] := hl
  unfold f_X0_goAll at hf
  refine lv_aload_n hx hb dX0_goAll_0 rfl (lv_at hl 0 rfl) ?_
  obtain ⟨u1, hu1, hf⟩ := ob hf
  refine k_VWv (As := []) (rest := []) (wr := [(q_writes, .inl (cI, 6, .inl vwrites)), (q_p1, .inr (5, [.int vp1_blocks, .ref q_p1_members, .ref q_p1_moves, .ref q_p1_digits, .ref q_p1_sizes, .ref q_p1_orders, .ref q_p1_above, .ref q_p1_below, .ref q_p1_struck, .ref q_p1_lots])), (q_p1_members, .inl (cI, 6, .inl vp1_members)), (q_p1_moves, .inl (cI, 6, .inl vp1_moves)), (q_p1_digits, .inl (cI, 6, .inl vp1_digits)), (q_p1_sizes, .inl (cI, 6, .inl vp1_sizes)), (q_p1_orders, .inl (cI, 30, .inl vp1_orders)), (q_p1_above, .inl (cI, 8, .inl vp1_above)), (q_p1_below, .inl (cI, 8, .inl vp1_below)), (q_p1_struck, .inl (cI, 5, .inl vp1_struck)), (q_p1_lots, .inl (cI, 16, .inl vp1_lots))]) ⟨hx, hb, hml, hown, hts⟩ hK hP hD hS hA [0, 1, 3] [2, 4, 5, 6, 7, 8, 9, 10, 11, 12, 13] rfl rfl (by decide) (by decide) (by decide) (c_X0_restart l dC dI cI cJ cB q_this q_wrote q_writes q_counts vballots vused vchosen vwaiter vwait vwrote vcounts _ hu1) (gl_X0_55 hts ⟨(Nat.le_of_ble_eq_true rfl), (Nat.le_of_ble_eq_true rfl)⟩) 0 0 rfl rfl rfl rfl hl.1 rfl (Nat.le_of_ble_eq_true rfl) dX0_goAll_1 ⟨(Nat.le_of_ble_eq_true rfl), (Nat.le_of_ble_eq_true rfl)⟩ (fun w H locs hE hP hD hS => ?_)
  subst hE
  have hP : va_P (dC, dI) classes [(q_writes, .inl (cI, 6, .inl vwrites)), (q_p1, .inr (5, [.int vp1_blocks, .ref q_p1_members, .ref q_p1_moves, .ref q_p1_digits, .ref q_p1_sizes, .ref q_p1_orders, .ref q_p1_above, .ref q_p1_below, .ref q_p1_struck, .ref q_p1_lots])), (q_p1_members, .inl (cI, 6, .inl vp1_members)), (q_p1_moves, .inl (cI, 6, .inl vp1_moves)), (q_p1_digits, .inl (cI, 6, .inl vp1_digits)), (q_p1_sizes, .inl (cI, 6, .inl vp1_sizes)), (q_p1_orders, .inl (cI, 30, .inl vp1_orders)), (q_p1_above, .inl (cI, 8, .inl vp1_above)), (q_p1_below, .inl (cI, 8, .inl vp1_below)), (q_p1_struck, .inl (cI, 5, .inl vp1_struck)), (q_p1_lots, .inl (cI, 16, .inl vp1_lots)), (q_this, .inr (0, [.int u1.1, .int u1.2.1, .int u1.2.2.1, .int u1.2.2.2.1, .int u1.2.2.2.2.1, .ref q_wrote, .ref q_writes, .ref q_counts])), (q_wrote, .inl (cI, 6, .inl u1.2.2.2.2.2.1)), (q_counts, .inl (cI, 5, .inl u1.2.2.2.2.2.2))] H := hP
  have hD : va_D A [(q_writes, .inl (cI, 6, .inl vwrites)), (q_p1, .inr (5, [.int vp1_blocks, .ref q_p1_members, .ref q_p1_moves, .ref q_p1_digits, .ref q_p1_sizes, .ref q_p1_orders, .ref q_p1_above, .ref q_p1_below, .ref q_p1_struck, .ref q_p1_lots])), (q_p1_members, .inl (cI, 6, .inl vp1_members)), (q_p1_moves, .inl (cI, 6, .inl vp1_moves)), (q_p1_digits, .inl (cI, 6, .inl vp1_digits)), (q_p1_sizes, .inl (cI, 6, .inl vp1_sizes)), (q_p1_orders, .inl (cI, 30, .inl vp1_orders)), (q_p1_above, .inl (cI, 8, .inl vp1_above)), (q_p1_below, .inl (cI, 8, .inl vp1_below)), (q_p1_struck, .inl (cI, 5, .inl vp1_struck)), (q_p1_lots, .inl (cI, 16, .inl vp1_lots)), (q_this, .inr (0, [.int u1.1, .int u1.2.1, .int u1.2.2.1, .int u1.2.2.2.1, .int u1.2.2.2.2.1, .ref q_wrote, .ref q_writes, .ref q_counts])), (q_wrote, .inl (cI, 6, .inl u1.2.2.2.2.2.1)), (q_counts, .inl (cI, 5, .inl u1.2.2.2.2.2.2))] := hD
  refine lv_aload_n hx hb dX0_goAll_4 rfl (lv_at hl 0 rfl) ?_
  refine lv_aload_n hx hb dX0_goAll_5 rfl (lv_at hl 1 rfl) ?_
  refine lv_bipush (v := (32 : Int32)) hx hb dX0_goAll_6 (by decide) ?_
  obtain ⟨u2, hu2, hf⟩ := ob hf
  refine k_VWv (As := [.ref q_p1, .int (32 : Int32)]) (rest := []) (wr := []) ⟨hx, hb, hml, hown, hts⟩ hK hP hD hS hA [11, 12, 0, 13, 1, 2, 3, 4, 5, 6, 7, 8, 9, 10] [] rfl rfl (by decide) (by decide) (by decide) (c_X0_goOn l dC dI cI cJ cB q_this q_p1 q_wrote q_writes q_counts q_p1_members q_p1_moves q_p1_digits q_p1_sizes q_p1_orders q_p1_above q_p1_below q_p1_struck q_p1_lots u1.1 u1.2.1 u1.2.2.1 u1.2.2.2.1 u1.2.2.2.2.1 u1.2.2.2.2.2.1 vwrites u1.2.2.2.2.2.2 vp1_blocks vp1_members vp1_moves vp1_digits vp1_sizes vp1_orders vp1_above vp1_below vp1_struck vp1_lots (32 : Int32) _ hu2) (gl_X0_58 hts ⟨(Nat.le_of_ble_eq_true rfl), (Nat.le_of_ble_eq_true rfl)⟩) 11 0 rfl rfl rfl rfl hl.1 rfl (Nat.le_of_ble_eq_true rfl) dX0_goAll_8 ⟨(Nat.le_of_ble_eq_true rfl), (Nat.le_of_ble_eq_true rfl)⟩ (fun w H locs hE hP hD hS => ?_)
  subst hE
  have hP : va_P (dC, dI) classes [(q_this, .inr (0, [.int u2.1, .int u2.2.1, .int u2.2.2.1, .int u1.2.2.2.1, .int u1.2.2.2.2.1, .ref q_wrote, .ref q_writes, .ref q_counts])), (q_wrote, .inl (cI, 6, .inl u2.2.2.2.1)), (q_writes, .inl (cI, 6, .inl u2.2.2.2.2.1)), (q_counts, .inl (cI, 5, .inl u2.2.2.2.2.2)), (q_p1, .inr (5, [.int vp1_blocks, .ref q_p1_members, .ref q_p1_moves, .ref q_p1_digits, .ref q_p1_sizes, .ref q_p1_orders, .ref q_p1_above, .ref q_p1_below, .ref q_p1_struck, .ref q_p1_lots])), (q_p1_members, .inl (cI, 6, .inl vp1_members)), (q_p1_moves, .inl (cI, 6, .inl vp1_moves)), (q_p1_digits, .inl (cI, 6, .inl vp1_digits)), (q_p1_sizes, .inl (cI, 6, .inl vp1_sizes)), (q_p1_orders, .inl (cI, 30, .inl vp1_orders)), (q_p1_above, .inl (cI, 8, .inl vp1_above)), (q_p1_below, .inl (cI, 8, .inl vp1_below)), (q_p1_struck, .inl (cI, 5, .inl vp1_struck)), (q_p1_lots, .inl (cI, 16, .inl vp1_lots))] H := hP
  have hD : va_D A [(q_this, .inr (0, [.int u2.1, .int u2.2.1, .int u2.2.2.1, .int u1.2.2.2.1, .int u1.2.2.2.2.1, .ref q_wrote, .ref q_writes, .ref q_counts])), (q_wrote, .inl (cI, 6, .inl u2.2.2.2.1)), (q_writes, .inl (cI, 6, .inl u2.2.2.2.2.1)), (q_counts, .inl (cI, 5, .inl u2.2.2.2.2.2)), (q_p1, .inr (5, [.int vp1_blocks, .ref q_p1_members, .ref q_p1_moves, .ref q_p1_digits, .ref q_p1_sizes, .ref q_p1_orders, .ref q_p1_above, .ref q_p1_below, .ref q_p1_struck, .ref q_p1_lots])), (q_p1_members, .inl (cI, 6, .inl vp1_members)), (q_p1_moves, .inl (cI, 6, .inl vp1_moves)), (q_p1_digits, .inl (cI, 6, .inl vp1_digits)), (q_p1_sizes, .inl (cI, 6, .inl vp1_sizes)), (q_p1_orders, .inl (cI, 30, .inl vp1_orders)), (q_p1_above, .inl (cI, 8, .inl vp1_above)), (q_p1_below, .inl (cI, 8, .inl vp1_below)), (q_p1_struck, .inl (cI, 5, .inl vp1_struck)), (q_p1_lots, .inl (cI, 16, .inl vp1_lots))] := hD
  have hf := osi hf
  exact x_vW hx hb hr hlocks hP hD hS (by have h9 := congrArg (fun z : Int32 × Int32 × Int32 × Int32 × Int32 × (Nat → Int32) × (Nat → Int32) × (Nat → Int32) => (w_X0_goAll cI cJ cB q_this q_p1 q_wrote q_writes q_counts q_p1_members q_p1_moves q_p1_digits q_p1_sizes q_p1_orders q_p1_above q_p1_below q_p1_struck q_p1_lots z.1 z.2.1 z.2.2.1 z.2.2.2.1 z.2.2.2.2.1 z.2.2.2.2.2.1 z.2.2.2.2.2.2.1 z.2.2.2.2.2.2.2 vp1_blocks vp1_members vp1_moves vp1_digits vp1_sizes vp1_orders vp1_above vp1_below vp1_struck vp1_lots)) hf; exact h9) dX0_goAll_11
def f_X0_nextBallot (vballots : Int32) : Option (Int32) := some (if (31 : Int32) < vballots then (31 : Int32) else vballots)
def w_X0_nextBallot (cI cJ cB : ClassId) (q_this q_wrote q_writes q_counts : Nat) (vballots : Int32) (vused : Int32) (vchosen : Int32) (vwaiter : Int32) (vwait : Int32) : va_W := [(q_this, .inr (0, [.int vballots, .int vused, .int vchosen, .int vwaiter, .int vwait, .ref q_wrote, .ref q_writes, .ref q_counts]))]
set_option maxHeartbeats 4000000 in
set_option maxRecDepth 100000 in
theorem c_X0_nextBallot (l : Launch) (dC : Nat → ClassId) (dI : Nat → Nat → Nat) (cI cJ cB : ClassId) (q_this q_wrote q_writes q_counts : Nat) (vballots : Int32) (vused : Int32) (vchosen : Int32) (vwaiter : Int32) (vwait : Int32) {r : Int32} (hf : f_X0_nextBallot vballots = some r) : Met l yX0_nextBallot (Cond.code yX0_nextBallot cX0_nextBallot 1 (some .int) :: wsL_law) (kR 1) (va_Pc [.ref q_this] (pR (dC, dI) cI cJ cB (w_X0_nextBallot cI cJ cB q_this q_wrote q_writes q_counts vballots vused vchosen vwaiter vwait))) (qRi r) 0 0 (fun _ => False) := by
  refine k_ro (cc := cX0_nextBallot) (n := 1) (ret := (some .int)) (by decide) (Nat.le_of_ble_eq_true rfl) ?_
  intro p e s m args below meth c ls hx hb hr hml hts hown hlocks hK hP hl
  have hP : va_P (dC, dI) classes [(q_this, .inr (0, [.int vballots, .int vused, .int vchosen, .int vwaiter, .int vwait, .ref q_wrote, .ref q_writes, .ref q_counts]))] s.heap := hP
  have hG : ∀ w ∈ wsL_law, w.before args s = true := fun w h => hts w (List.mem_cons_of_mem _ h)
  have hown : s.vm.findClass RX0 = some m.cls := hown
  have hl : lv_has ls 1 [(0, .ref q_this)] := hl
  unfold f_X0_nextBallot at hf
  refine lv_aload_n hx hb dX0_nextBallot_0 rfl (lv_at hl 0 rfl) ?_
  refine p_get (D := (dC, dI)) (ci := 0) (v := .int vballots) (C := RX0) (T := TX0) (N := 8) 0 fX0_0 hx hb hG inlX0 hown hK.1 hP 0 rfl rfl (by decide) (hG _ mw_70) rfl dX0_nextBallot_1 ?_
  refine lv_bipush (v := (31 : Int32)) hx hb dX0_nextBallot_4 (by decide) ?_
  refine va_mmin hx hb (hml.trans hl.1.symm) hown (hG _ mw_604) (hG _ mw_194) (hG _ mw_195) (hG _ mw_196) (Nat.le_of_ble_eq_true rfl) (Nat.le_of_ble_eq_true rfl) (Nat.zero_le _) (Nat.zero_le _) dX0_nextBallot_6 ?_
  have hf := osi hf
  exact x_iR hx hb hr hlocks hf dX0_nextBallot_9
def f_X0_state_B4 (vwrote : Nat → Int32) (x1 : Int32) (x2 : Int32) : Option ((Int32 × Int32) ⊕ (Int32)) := (if x2 < 0 then some (.inr x1) else (if x2 < 0 ∨ 6 ≤ x2.toNatClampNeg then none else some (.inl ((((x1 * (6 : Int32)) + (vwrote x2.toNatClampNeg)) + (1 : Int32)), (x2 + (-1 : Int32))))))
def f_X0_state (N : Nat) (vwrote : Nat → Int32) : Option (Int32) := ((lp (fun s => f_X0_state_B4 vwrote s.1 s.2) N ((0 : Int32), (5 : Int32))).bind (fun e3 => some e3))
def w_X0_state (cI cJ cB : ClassId) (q_this q_wrote q_writes q_counts : Nat) (vballots : Int32) (vused : Int32) (vchosen : Int32) (vwaiter : Int32) (vwait : Int32) (vwrote : Nat → Int32) : va_W := [(q_this, .inr (0, [.int vballots, .int vused, .int vchosen, .int vwaiter, .int vwait, .ref q_wrote, .ref q_writes, .ref q_counts])), (q_wrote, .inl (cI, 6, .inl vwrote))]
set_option maxHeartbeats 4000000 in
set_option maxRecDepth 100000 in
theorem c_X0_state (l : Launch) (dC : Nat → ClassId) (dI : Nat → Nat → Nat) (cI cJ cB : ClassId) (q_this q_wrote q_writes q_counts : Nat) (vballots : Int32) (vused : Int32) (vchosen : Int32) (vwaiter : Int32) (vwait : Int32) (vwrote : Nat → Int32) {N : Nat} {r : Int32} (hf : f_X0_state N vwrote = some r) : Met l yX0_state (Cond.code yX0_state cX0_state 3 (some .int) :: wsL_law) (kR 0) (va_Pc [.ref q_this] (pR (dC, dI) cI cJ cB (w_X0_state cI cJ cB q_this q_wrote q_writes q_counts vballots vused vchosen vwaiter vwait vwrote))) (qRi r) 0 0 (fun _ => False) := by
  refine k_ro (cc := cX0_state) (n := 3) (ret := (some .int)) (by decide) (Nat.le_of_ble_eq_true rfl) ?_
  intro p e s m args below meth c ls hx hb hr hml hts hown hlocks hK hP hl
  have hP : va_P (dC, dI) classes [(q_this, .inr (0, [.int vballots, .int vused, .int vchosen, .int vwaiter, .int vwait, .ref q_wrote, .ref q_writes, .ref q_counts])), (q_wrote, .inl (cI, 6, .inl vwrote))] s.heap := hP
  have hG : ∀ w ∈ wsL_law, w.before args s = true := fun w h => hts w (List.mem_cons_of_mem _ h)
  have hown : s.vm.findClass RX0 = some m.cls := hown
  have hl : lv_has ls 3 [(0, .ref q_this)] := hl
  unfold f_X0_state at hf
  have hL4 : ∀ (n : Nat) (x1 : Int32) (x2 : Int32) (res4 : Int32), lp (fun s => f_X0_state_B4 vwrote s.1 s.2) n (x1, x2) = some res4 → ∀ (ls : Array Slot), lv_has ls 3 [(0, .ref q_this), (1, .int x1), (2, .int x2)] → (∀ q9 : Int32, res4 = q9 → q9 = r) → W p l e (kR 0) s m args below meth c s.heap [] 0 0 (MQ below (qRi r) args s 0 0 (fun _ => False)) (F0 m 4 ls []) := by
    intro n
    induction n with
    | zero => intro x1 x2 res4 h9; exact (lp_zero h9).elim
    | succ n ih =>
      intro x1 x2 res4 h9 ls hl KR
      obtain ⟨o4, hf, hnext, hexit⟩ := lp_succ h9
      have hf : f_X0_state_B4 vwrote x1 x2 = some o4 := hf
      unfold f_X0_state_B4 at hf
      refine lv_iload_n hx hb dX0_state_4 rfl (lv_at hl 2 rfl) ?_
      refine lv_if_lt (tgt := 28) hx hb dX0_state_5 (by decide) (fun c1 => ?_) (fun c1 => ?_)
      · replace hf := ot hf c1
        refine lv_iload_n hx hb dX0_state_28 rfl (lv_at hl 1 rfl) ?_
        have hf := KR _ (hexit _ (osi hf).symm).symm
        exact x_iR hx hb hr hlocks hf dX0_state_29
      · replace hf := oe hf c1
        refine lv_iload_n hx hb dX0_state_8 rfl (lv_at hl 1 rfl) ?_
        refine lv_bipush (v := (6 : Int32)) hx hb dX0_state_9 (by decide) ?_
        refine lv_imul hx hb dX0_state_11 ?_
        refine lv_aload_n hx hb dX0_state_12 rfl (lv_at hl 0 rfl) ?_
        refine p_get (D := (dC, dI)) (ci := 0) (v := .ref q_wrote) (C := RX0) (T := TX0) (N := 8) 5 fX0_5 hx hb hG inlX0 hown hK.1 hP 0 rfl rfl (by decide) (hG _ mw_75) rfl dX0_state_13 ?_
        refine lv_iload_n hx hb dX0_state_16 rfl (lv_at hl 2 rfl) ?_
        obtain ⟨g2, hf⟩ := og hf
        refine va_iald hx hb hK.1 hP 1 0 rfl rfl g2 dX0_state_17 ?_
        refine lv_iadd hx hb dX0_state_18 ?_
        refine lv_iconst (v := (1 : Int32)) hx hb dX0_state_19 (by decide) ?_
        refine lv_iadd hx hb dX0_state_20 ?_
        refine lv_istore_n (lv' := [(1, .int (((x1 * (6 : Int32)) + (vwrote x2.toNatClampNeg)) + (1 : Int32))), (0, .ref q_this), (2, .int x2)]) hx hb dX0_state_21 rfl hl (by decide) rfl (fun ls hl => ?_)
        refine lv_iinc (v := (x2 + (-1 : Int32))) (lv' := [(2, .int (x2 + (-1 : Int32))), (1, .int (((x1 * (6 : Int32)) + (vwrote x2.toNatClampNeg)) + (1 : Int32))), (0, .ref q_this)]) hx hb dX0_state_22 hl (k := 2) rfl rfl (by decide) rfl (fun ls hl => ?_)
        refine lv_goto (tgt := 4) hx hb dX0_state_25 (by decide) ?_
        exact ih (((x1 * (6 : Int32)) + (vwrote x2.toNatClampNeg)) + (1 : Int32)) (x2 + (-1 : Int32)) res4 (hnext _ (osi hf).symm) ls (lv_sub hl [2, 1, 0] rfl) KR
  refine lv_iconst (v := (0 : Int32)) hx hb dX0_state_0 (by decide) ?_
  refine lv_istore_n (lv' := [(1, .int (0 : Int32)), (0, .ref q_this)]) hx hb dX0_state_1 rfl hl (by decide) rfl (fun ls hl => ?_)
  refine lv_iconst (v := (5 : Int32)) hx hb dX0_state_2 (by decide) ?_
  refine lv_istore_n (lv' := [(2, .int (5 : Int32)), (1, .int (0 : Int32)), (0, .ref q_this)]) hx hb dX0_state_3 rfl hl (by decide) rfl (fun ls hl => ?_)
  obtain ⟨e3, hp3, hf⟩ := ob hf
  exact hL4 N (0 : Int32) (5 : Int32) e3 hp3 ls (lv_sub hl [2, 1, 0] rfl) (fun q9 h9 => by subst h9; exact osi hf)
def f_X0_takeAll (vwrote : Nat → Int32) (vcounts : Nat → Int32) (vp1_ballots : Int32) (vp1_used : Int32) (vp1_chosen : Int32) (vp1_wrote : Nat → Int32) (vp1_counts : Nat → Int32) : Option (Int32 × Int32 × Int32 × (Nat → Int32) × (Nat → Int32)) := some (vp1_ballots, vp1_used, vp1_chosen, (va_cpy vp1_wrote vwrote (0 : Int32).toNatClampNeg (0 : Int32).toNatClampNeg (6 : Int32).toNatClampNeg), (va_cpy vp1_counts vcounts (0 : Int32).toNatClampNeg (0 : Int32).toNatClampNeg (5 : Int32).toNatClampNeg))
def w_X0_takeAll (cI cJ cB : ClassId) (q_this q_p1 q_wrote q_writes q_counts q_p1_wrote q_p1_writes q_p1_counts : Nat) (vballots : Int32) (vused : Int32) (vchosen : Int32) (vwaiter : Int32) (vwait : Int32) (vwrote : Nat → Int32) (vcounts : Nat → Int32) (vp1_ballots : Int32) (vp1_used : Int32) (vp1_chosen : Int32) (vp1_waiter : Int32) (vp1_wait : Int32) (vp1_wrote : Nat → Int32) (vp1_counts : Nat → Int32) : va_W := [(q_this, .inr (0, [.int vballots, .int vused, .int vchosen, .int vwaiter, .int vwait, .ref q_wrote, .ref q_writes, .ref q_counts])), (q_wrote, .inl (cI, 6, .inl vwrote)), (q_counts, .inl (cI, 5, .inl vcounts)), (q_p1, .inr (0, [.int vp1_ballots, .int vp1_used, .int vp1_chosen, .int vp1_waiter, .int vp1_wait, .ref q_p1_wrote, .ref q_p1_writes, .ref q_p1_counts])), (q_p1_wrote, .inl (cI, 6, .inl vp1_wrote)), (q_p1_counts, .inl (cI, 5, .inl vp1_counts))]
set_option maxHeartbeats 4000000 in
set_option maxRecDepth 100000 in
theorem c_X0_takeAll (l : Launch) (dC : Nat → ClassId) (dI : Nat → Nat → Nat) (cI cJ cB : ClassId) (q_this q_p1 q_wrote q_writes q_counts q_p1_wrote q_p1_writes q_p1_counts : Nat) (vballots : Int32) (vused : Int32) (vchosen : Int32) (vwaiter : Int32) (vwait : Int32) (vwrote : Nat → Int32) (vcounts : Nat → Int32) (vp1_ballots : Int32) (vp1_used : Int32) (vp1_chosen : Int32) (vp1_waiter : Int32) (vp1_wait : Int32) (vp1_wrote : Nat → Int32) (vp1_counts : Nat → Int32) (sz : Nat) {r : Int32 × Int32 × Int32 × (Nat → Int32) × (Nat → Int32)} (hf : f_X0_takeAll vwrote vcounts vp1_ballots vp1_used vp1_chosen vp1_wrote vp1_counts = some r) : Met l yX0_takeAll (Cond.code yX0_takeAll cX0_takeAll 2 none :: wsL_law) (kR 1) (va_Pc [.ref q_this, .ref q_p1] (pW (dC, dI) cI cJ cB (w_X0_takeAll cI cJ cB q_this q_p1 q_wrote q_writes q_counts q_p1_wrote q_p1_writes q_p1_counts vballots vused vchosen vwaiter vwait vwrote vcounts vp1_ballots vp1_used vp1_chosen vp1_waiter vp1_wait vp1_wrote vp1_counts) sz)) (qWv (fun w => w = (w_X0_takeAll cI cJ cB q_this q_p1 q_wrote q_writes q_counts q_p1_wrote q_p1_writes q_p1_counts r.1 r.2.1 r.2.2.1 vwaiter vwait r.2.2.2.1 r.2.2.2.2 vp1_ballots vp1_used vp1_chosen vp1_waiter vp1_wait vp1_wrote vp1_counts)) (dC, dI) (va_A (w_X0_takeAll cI cJ cB q_this q_p1 q_wrote q_writes q_counts q_p1_wrote q_p1_writes q_p1_counts vballots vused vchosen vwaiter vwait vwrote vcounts vp1_ballots vp1_used vp1_chosen vp1_waiter vp1_wait vp1_wrote vp1_counts) sz)) 0 0 (va_A (w_X0_takeAll cI cJ cB q_this q_p1 q_wrote q_writes q_counts q_p1_wrote q_p1_writes q_p1_counts vballots vused vchosen vwaiter vwait vwrote vcounts vp1_ballots vp1_used vp1_chosen vp1_waiter vp1_wait vp1_wrote vp1_counts) sz) := by
  refine k_wr (Qc := fun A => (qWv (fun w => w = (w_X0_takeAll cI cJ cB q_this q_p1 q_wrote q_writes q_counts q_p1_wrote q_p1_writes q_p1_counts r.1 r.2.1 r.2.2.1 vwaiter vwait r.2.2.2.1 r.2.2.2.2 vp1_ballots vp1_used vp1_chosen vp1_waiter vp1_wait vp1_wrote vp1_counts)) (dC, dI) A)) (cc := cX0_takeAll) (n := 2) (ret := none) (by decide) (Nat.le_of_ble_eq_true rfl) ?_
  intro p e s m args below meth c ls A hx hb hr hml hts hown hlocks hnm hA hK hP hD hS hl
  have hD : va_D A [(q_this, .inr (0, [.int vballots, .int vused, .int vchosen, .int vwaiter, .int vwait, .ref q_wrote, .ref q_writes, .ref q_counts])), (q_wrote, .inl (cI, 6, .inl vwrote)), (q_counts, .inl (cI, 5, .inl vcounts)), (q_p1, .inr (0, [.int vp1_ballots, .int vp1_used, .int vp1_chosen, .int vp1_waiter, .int vp1_wait, .ref q_p1_wrote, .ref q_p1_writes, .ref q_p1_counts])), (q_p1_wrote, .inl (cI, 6, .inl vp1_wrote)), (q_p1_counts, .inl (cI, 5, .inl vp1_counts))] := hD
  have hP : va_P (dC, dI) classes [(q_this, .inr (0, [.int vballots, .int vused, .int vchosen, .int vwaiter, .int vwait, .ref q_wrote, .ref q_writes, .ref q_counts])), (q_wrote, .inl (cI, 6, .inl vwrote)), (q_counts, .inl (cI, 5, .inl vcounts)), (q_p1, .inr (0, [.int vp1_ballots, .int vp1_used, .int vp1_chosen, .int vp1_waiter, .int vp1_wait, .ref q_p1_wrote, .ref q_p1_writes, .ref q_p1_counts])), (q_p1_wrote, .inl (cI, 6, .inl vp1_wrote)), (q_p1_counts, .inl (cI, 5, .inl vp1_counts))] s.heap := hP
  have hG : ∀ w ∈ wsL_law, w.before args s = true := fun w h => hts w (List.mem_cons_of_mem _ h)
  have hown : s.vm.findClass RX0 = some m.cls := hown
  have hl : lv_has ls 2 [(0, .ref q_this), (1, .ref q_p1)] := hl
  unfold f_X0_takeAll at hf
  refine lv_aload_n hx hb dX0_takeAll_0 rfl (lv_at hl 0 rfl) ?_
  refine lv_aload_n hx hb dX0_takeAll_1 rfl (lv_at hl 1 rfl) ?_
  refine p_get (D := (dC, dI)) (ci := 0) (v := .int vp1_ballots) (C := RX0) (T := TX0) (N := 8) 0 fX0_0 hx hb hG inlX0 hown hK.1 hP 3 rfl rfl (by decide) (hG _ mw_70) rfl dX0_takeAll_2 ?_
  refine p_put (D := (dC, dI)) (ci := 0) (v := .int vp1_ballots) (ty := .int) (C := RX0) (T := TX0) (N := 8) 0 fX0_0 hx hb hG inlX0 tyX0 tyX0_ok nmX0 hown hK.1 hP hD hS 0 rfl rfl (by decide) (hG _ mw_70) rfl (by decide +kernel) rfl rfl (Nat.le_of_ble_eq_true rfl) dX0_takeAll_5 (fun H locs hP hD hS => ?_)
  have hP : va_P (dC, dI) classes [(q_this, .inr (0, [.int vp1_ballots, .int vused, .int vchosen, .int vwaiter, .int vwait, .ref q_wrote, .ref q_writes, .ref q_counts])), (q_wrote, .inl (cI, 6, .inl vwrote)), (q_counts, .inl (cI, 5, .inl vcounts)), (q_p1, .inr (0, [.int vp1_ballots, .int vp1_used, .int vp1_chosen, .int vp1_waiter, .int vp1_wait, .ref q_p1_wrote, .ref q_p1_writes, .ref q_p1_counts])), (q_p1_wrote, .inl (cI, 6, .inl vp1_wrote)), (q_p1_counts, .inl (cI, 5, .inl vp1_counts))] H := hP
  have hD : va_D A [(q_this, .inr (0, [.int vp1_ballots, .int vused, .int vchosen, .int vwaiter, .int vwait, .ref q_wrote, .ref q_writes, .ref q_counts])), (q_wrote, .inl (cI, 6, .inl vwrote)), (q_counts, .inl (cI, 5, .inl vcounts)), (q_p1, .inr (0, [.int vp1_ballots, .int vp1_used, .int vp1_chosen, .int vp1_waiter, .int vp1_wait, .ref q_p1_wrote, .ref q_p1_writes, .ref q_p1_counts])), (q_p1_wrote, .inl (cI, 6, .inl vp1_wrote)), (q_p1_counts, .inl (cI, 5, .inl vp1_counts))] := hD
  refine lv_aload_n hx hb dX0_takeAll_8 rfl (lv_at hl 0 rfl) ?_
  refine lv_aload_n hx hb dX0_takeAll_9 rfl (lv_at hl 1 rfl) ?_
  refine p_get (D := (dC, dI)) (ci := 0) (v := .int vp1_used) (C := RX0) (T := TX0) (N := 8) 1 fX0_1 hx hb hG inlX0 hown hK.1 hP 3 rfl rfl (by decide) (hG _ mw_71) rfl dX0_takeAll_10 ?_
  refine p_put (D := (dC, dI)) (ci := 0) (v := .int vp1_used) (ty := .int) (C := RX0) (T := TX0) (N := 8) 1 fX0_1 hx hb hG inlX0 tyX0 tyX0_ok nmX0 hown hK.1 hP hD hS 0 rfl rfl (by decide) (hG _ mw_71) rfl (by decide +kernel) rfl rfl (Nat.le_of_ble_eq_true rfl) dX0_takeAll_13 (fun H locs hP hD hS => ?_)
  have hP : va_P (dC, dI) classes [(q_this, .inr (0, [.int vp1_ballots, .int vp1_used, .int vchosen, .int vwaiter, .int vwait, .ref q_wrote, .ref q_writes, .ref q_counts])), (q_wrote, .inl (cI, 6, .inl vwrote)), (q_counts, .inl (cI, 5, .inl vcounts)), (q_p1, .inr (0, [.int vp1_ballots, .int vp1_used, .int vp1_chosen, .int vp1_waiter, .int vp1_wait, .ref q_p1_wrote, .ref q_p1_writes, .ref q_p1_counts])), (q_p1_wrote, .inl (cI, 6, .inl vp1_wrote)), (q_p1_counts, .inl (cI, 5, .inl vp1_counts))] H := hP
  have hD : va_D A [(q_this, .inr (0, [.int vp1_ballots, .int vp1_used, .int vchosen, .int vwaiter, .int vwait, .ref q_wrote, .ref q_writes, .ref q_counts])), (q_wrote, .inl (cI, 6, .inl vwrote)), (q_counts, .inl (cI, 5, .inl vcounts)), (q_p1, .inr (0, [.int vp1_ballots, .int vp1_used, .int vp1_chosen, .int vp1_waiter, .int vp1_wait, .ref q_p1_wrote, .ref q_p1_writes, .ref q_p1_counts])), (q_p1_wrote, .inl (cI, 6, .inl vp1_wrote)), (q_p1_counts, .inl (cI, 5, .inl vp1_counts))] := hD
  refine lv_aload_n hx hb dX0_takeAll_16 rfl (lv_at hl 0 rfl) ?_
  refine lv_aload_n hx hb dX0_takeAll_17 rfl (lv_at hl 1 rfl) ?_
  refine p_get (D := (dC, dI)) (ci := 0) (v := .int vp1_chosen) (C := RX0) (T := TX0) (N := 8) 2 fX0_2 hx hb hG inlX0 hown hK.1 hP 3 rfl rfl (by decide) (hG _ mw_72) rfl dX0_takeAll_18 ?_
  refine p_put (D := (dC, dI)) (ci := 0) (v := .int vp1_chosen) (ty := .int) (C := RX0) (T := TX0) (N := 8) 2 fX0_2 hx hb hG inlX0 tyX0 tyX0_ok nmX0 hown hK.1 hP hD hS 0 rfl rfl (by decide) (hG _ mw_72) rfl (by decide +kernel) rfl rfl (Nat.le_of_ble_eq_true rfl) dX0_takeAll_21 (fun H locs hP hD hS => ?_)
  have hP : va_P (dC, dI) classes [(q_this, .inr (0, [.int vp1_ballots, .int vp1_used, .int vp1_chosen, .int vwaiter, .int vwait, .ref q_wrote, .ref q_writes, .ref q_counts])), (q_wrote, .inl (cI, 6, .inl vwrote)), (q_counts, .inl (cI, 5, .inl vcounts)), (q_p1, .inr (0, [.int vp1_ballots, .int vp1_used, .int vp1_chosen, .int vp1_waiter, .int vp1_wait, .ref q_p1_wrote, .ref q_p1_writes, .ref q_p1_counts])), (q_p1_wrote, .inl (cI, 6, .inl vp1_wrote)), (q_p1_counts, .inl (cI, 5, .inl vp1_counts))] H := hP
  have hD : va_D A [(q_this, .inr (0, [.int vp1_ballots, .int vp1_used, .int vp1_chosen, .int vwaiter, .int vwait, .ref q_wrote, .ref q_writes, .ref q_counts])), (q_wrote, .inl (cI, 6, .inl vwrote)), (q_counts, .inl (cI, 5, .inl vcounts)), (q_p1, .inr (0, [.int vp1_ballots, .int vp1_used, .int vp1_chosen, .int vp1_waiter, .int vp1_wait, .ref q_p1_wrote, .ref q_p1_writes, .ref q_p1_counts])), (q_p1_wrote, .inl (cI, 6, .inl vp1_wrote)), (q_p1_counts, .inl (cI, 5, .inl vp1_counts))] := hD
  refine lv_aload_n hx hb dX0_takeAll_24 rfl (lv_at hl 1 rfl) ?_
  refine p_get (D := (dC, dI)) (ci := 0) (v := .ref q_p1_wrote) (C := RX0) (T := TX0) (N := 8) 5 fX0_5 hx hb hG inlX0 hown hK.1 hP 3 rfl rfl (by decide) (hG _ mw_75) rfl dX0_takeAll_25 ?_
  refine lv_iconst (v := (0 : Int32)) hx hb dX0_takeAll_28 (by decide) ?_
  refine lv_aload_n hx hb dX0_takeAll_29 rfl (lv_at hl 0 rfl) ?_
  refine p_get (D := (dC, dI)) (ci := 0) (v := .ref q_wrote) (C := RX0) (T := TX0) (N := 8) 5 fX0_5 hx hb hG inlX0 hown hK.1 hP 0 rfl rfl (by decide) (hG _ mw_75) rfl dX0_takeAll_30 ?_
  refine lv_iconst (v := (0 : Int32)) hx hb dX0_takeAll_33 (by decide) ?_
  refine lv_bipush (v := (6 : Int32)) hx hb dX0_takeAll_34 (by decide) ?_
  refine va_copyi hx hb (hml.trans hl.1.symm) hown (hG _ mw_477) (hG _ mw_235) (hG _ mw_236) (hG _ mw_237) hK.1 hP hD hS 4 1 0 0 rfl rfl rfl rfl rfl (by decide) (by decide) (by decide) (by decide) (by decide) (fun _ _ => rfl) (Nat.le_of_ble_eq_true rfl) (Nat.le_of_ble_eq_true rfl) dX0_takeAll_36 (fun H locs hP hD hS => ?_)
  have hP : va_P (dC, dI) classes [(q_this, .inr (0, [.int vp1_ballots, .int vp1_used, .int vp1_chosen, .int vwaiter, .int vwait, .ref q_wrote, .ref q_writes, .ref q_counts])), (q_wrote, .inl (cI, 6, .inl (va_cpy vp1_wrote vwrote (0 : Int32).toNatClampNeg (0 : Int32).toNatClampNeg (6 : Int32).toNatClampNeg))), (q_counts, .inl (cI, 5, .inl vcounts)), (q_p1, .inr (0, [.int vp1_ballots, .int vp1_used, .int vp1_chosen, .int vp1_waiter, .int vp1_wait, .ref q_p1_wrote, .ref q_p1_writes, .ref q_p1_counts])), (q_p1_wrote, .inl (cI, 6, .inl vp1_wrote)), (q_p1_counts, .inl (cI, 5, .inl vp1_counts))] H := hP
  have hD : va_D A [(q_this, .inr (0, [.int vp1_ballots, .int vp1_used, .int vp1_chosen, .int vwaiter, .int vwait, .ref q_wrote, .ref q_writes, .ref q_counts])), (q_wrote, .inl (cI, 6, .inl (va_cpy vp1_wrote vwrote (0 : Int32).toNatClampNeg (0 : Int32).toNatClampNeg (6 : Int32).toNatClampNeg))), (q_counts, .inl (cI, 5, .inl vcounts)), (q_p1, .inr (0, [.int vp1_ballots, .int vp1_used, .int vp1_chosen, .int vp1_waiter, .int vp1_wait, .ref q_p1_wrote, .ref q_p1_writes, .ref q_p1_counts])), (q_p1_wrote, .inl (cI, 6, .inl vp1_wrote)), (q_p1_counts, .inl (cI, 5, .inl vp1_counts))] := hD
  refine lv_aload_n hx hb dX0_takeAll_39 rfl (lv_at hl 1 rfl) ?_
  refine p_get (D := (dC, dI)) (ci := 0) (v := .ref q_p1_counts) (C := RX0) (T := TX0) (N := 8) 7 fX0_7 hx hb hG inlX0 hown hK.1 hP 3 rfl rfl (by decide) (hG _ mw_77) rfl dX0_takeAll_40 ?_
  refine lv_iconst (v := (0 : Int32)) hx hb dX0_takeAll_43 (by decide) ?_
  refine lv_aload_n hx hb dX0_takeAll_44 rfl (lv_at hl 0 rfl) ?_
  refine p_get (D := (dC, dI)) (ci := 0) (v := .ref q_counts) (C := RX0) (T := TX0) (N := 8) 7 fX0_7 hx hb hG inlX0 hown hK.1 hP 0 rfl rfl (by decide) (hG _ mw_77) rfl dX0_takeAll_45 ?_
  refine lv_iconst (v := (0 : Int32)) hx hb dX0_takeAll_48 (by decide) ?_
  refine lv_iconst (v := (5 : Int32)) hx hb dX0_takeAll_49 (by decide) ?_
  refine va_copyi hx hb (hml.trans hl.1.symm) hown (hG _ mw_477) (hG _ mw_235) (hG _ mw_236) (hG _ mw_237) hK.1 hP hD hS 5 2 0 0 rfl rfl rfl rfl rfl (by decide) (by decide) (by decide) (by decide) (by decide) (fun _ _ => rfl) (Nat.le_of_ble_eq_true rfl) (Nat.le_of_ble_eq_true rfl) dX0_takeAll_50 (fun H locs hP hD hS => ?_)
  have hP : va_P (dC, dI) classes [(q_this, .inr (0, [.int vp1_ballots, .int vp1_used, .int vp1_chosen, .int vwaiter, .int vwait, .ref q_wrote, .ref q_writes, .ref q_counts])), (q_wrote, .inl (cI, 6, .inl (va_cpy vp1_wrote vwrote (0 : Int32).toNatClampNeg (0 : Int32).toNatClampNeg (6 : Int32).toNatClampNeg))), (q_counts, .inl (cI, 5, .inl (va_cpy vp1_counts vcounts (0 : Int32).toNatClampNeg (0 : Int32).toNatClampNeg (5 : Int32).toNatClampNeg))), (q_p1, .inr (0, [.int vp1_ballots, .int vp1_used, .int vp1_chosen, .int vp1_waiter, .int vp1_wait, .ref q_p1_wrote, .ref q_p1_writes, .ref q_p1_counts])), (q_p1_wrote, .inl (cI, 6, .inl vp1_wrote)), (q_p1_counts, .inl (cI, 5, .inl vp1_counts))] H := hP
  have hD : va_D A [(q_this, .inr (0, [.int vp1_ballots, .int vp1_used, .int vp1_chosen, .int vwaiter, .int vwait, .ref q_wrote, .ref q_writes, .ref q_counts])), (q_wrote, .inl (cI, 6, .inl (va_cpy vp1_wrote vwrote (0 : Int32).toNatClampNeg (0 : Int32).toNatClampNeg (6 : Int32).toNatClampNeg))), (q_counts, .inl (cI, 5, .inl (va_cpy vp1_counts vcounts (0 : Int32).toNatClampNeg (0 : Int32).toNatClampNeg (5 : Int32).toNatClampNeg))), (q_p1, .inr (0, [.int vp1_ballots, .int vp1_used, .int vp1_chosen, .int vp1_waiter, .int vp1_wait, .ref q_p1_wrote, .ref q_p1_writes, .ref q_p1_counts])), (q_p1_wrote, .inl (cI, 6, .inl vp1_wrote)), (q_p1_counts, .inl (cI, 5, .inl vp1_counts))] := hD
  have hf := osi hf
  exact x_vW hx hb hr hlocks hP hD hS (by have h9 := congrArg (fun z : Int32 × Int32 × Int32 × (Nat → Int32) × (Nat → Int32) => (w_X0_takeAll cI cJ cB q_this q_p1 q_wrote q_writes q_counts q_p1_wrote q_p1_writes q_p1_counts z.1 z.2.1 z.2.2.1 vwaiter vwait z.2.2.2.1 z.2.2.2.2 vp1_ballots vp1_used vp1_chosen vp1_waiter vp1_wait vp1_wrote vp1_counts)) hf; exact h9) dX0_takeAll_53
def f_X0_takeState_B15 (x3 : Int32) (x4 : Int32) (vwrote : Nat → Int32) : Option ((Int32 × Int32 × (Nat → Int32)) ⊕ (Int32 × Int32 × (Nat → Int32))) := (if (6 : Int32) ≤ x4 then some (.inr (x3, x4, vwrote)) else (if x4 < 0 ∨ 6 ≤ x4.toNatClampNeg then none else some (.inl ((x3 / (6 : Int32)), (x4 + (1 : Int32)), (upd vwrote x4.toNatClampNeg ((x3 - x3 / (6 : Int32) * (6 : Int32)) - (1 : Int32)))))))
def f_X0_takeState (N : Nat) (vwrote : Nat → Int32) (vcounts : Nat → Int32) (vp1_blocks : Int32) (vp1_members : Nat → Int32) (x2 : Int32) : Option (Int32 × Int32 × (Nat → Int32) × (Nat → Int32)) := ((lp (fun s => f_X0_takeState_B15 s.1 s.2.1 s.2.2) N (x2, (0 : Int32), vwrote)).bind (fun e3 => ((f_X0_tally N e3.2.2 vcounts vp1_blocks vp1_members).bind (fun u4 => some ((-1 : Int32), (0 : Int32), e3.2.2, u4)))))
def w_X0_takeState (cI cJ cB : ClassId) (q_this q_p1 q_wrote q_writes q_counts q_p1_members q_p1_moves q_p1_digits q_p1_sizes q_p1_orders q_p1_above q_p1_below q_p1_struck q_p1_lots : Nat) (vballots : Int32) (vused : Int32) (vchosen : Int32) (vwaiter : Int32) (vwait : Int32) (vwrote : Nat → Int32) (vcounts : Nat → Int32) (vp1_blocks : Int32) (vp1_members : Nat → Int32) : va_W := [(q_this, .inr (0, [.int vballots, .int vused, .int vchosen, .int vwaiter, .int vwait, .ref q_wrote, .ref q_writes, .ref q_counts])), (q_wrote, .inl (cI, 6, .inl vwrote)), (q_counts, .inl (cI, 5, .inl vcounts)), (q_p1, .inr (5, [.int vp1_blocks, .ref q_p1_members, .ref q_p1_moves, .ref q_p1_digits, .ref q_p1_sizes, .ref q_p1_orders, .ref q_p1_above, .ref q_p1_below, .ref q_p1_struck, .ref q_p1_lots])), (q_p1_members, .inl (cI, 6, .inl vp1_members))]
set_option maxHeartbeats 4000000 in
set_option maxRecDepth 100000 in
theorem c_X0_takeState (l : Launch) (dC : Nat → ClassId) (dI : Nat → Nat → Nat) (cI cJ cB : ClassId) (q_this q_p1 q_wrote q_writes q_counts q_p1_members q_p1_moves q_p1_digits q_p1_sizes q_p1_orders q_p1_above q_p1_below q_p1_struck q_p1_lots : Nat) (vballots : Int32) (vused : Int32) (vchosen : Int32) (vwaiter : Int32) (vwait : Int32) (vwrote : Nat → Int32) (vcounts : Nat → Int32) (vp1_blocks : Int32) (vp1_members : Nat → Int32) (x2 : Int32) (sz : Nat) {N : Nat} {r : Int32 × Int32 × (Nat → Int32) × (Nat → Int32)} (hf : f_X0_takeState N vwrote vcounts vp1_blocks vp1_members x2 = some r) : Met l yX0_takeState (Cond.code yX0_takeState cX0_takeState 5 none :: wsL_law) (kR 2) (va_Pc [.ref q_this, .ref q_p1, .int x2] (pW (dC, dI) cI cJ cB (w_X0_takeState cI cJ cB q_this q_p1 q_wrote q_writes q_counts q_p1_members q_p1_moves q_p1_digits q_p1_sizes q_p1_orders q_p1_above q_p1_below q_p1_struck q_p1_lots vballots vused vchosen vwaiter vwait vwrote vcounts vp1_blocks vp1_members) sz)) (qWv (fun w => w = (w_X0_takeState cI cJ cB q_this q_p1 q_wrote q_writes q_counts q_p1_members q_p1_moves q_p1_digits q_p1_sizes q_p1_orders q_p1_above q_p1_below q_p1_struck q_p1_lots vballots vused vchosen r.1 r.2.1 r.2.2.1 r.2.2.2 vp1_blocks vp1_members)) (dC, dI) (va_A (w_X0_takeState cI cJ cB q_this q_p1 q_wrote q_writes q_counts q_p1_members q_p1_moves q_p1_digits q_p1_sizes q_p1_orders q_p1_above q_p1_below q_p1_struck q_p1_lots vballots vused vchosen vwaiter vwait vwrote vcounts vp1_blocks vp1_members) sz)) 0 0 (va_A (w_X0_takeState cI cJ cB q_this q_p1 q_wrote q_writes q_counts q_p1_members q_p1_moves q_p1_digits q_p1_sizes q_p1_orders q_p1_above q_p1_below q_p1_struck q_p1_lots vballots vused vchosen vwaiter vwait vwrote vcounts vp1_blocks vp1_members) sz) := by
  refine k_wr (Qc := fun A => (qWv (fun w => w = (w_X0_takeState cI cJ cB q_this q_p1 q_wrote q_writes q_counts q_p1_members q_p1_moves q_p1_digits q_p1_sizes q_p1_orders q_p1_above q_p1_below q_p1_struck q_p1_lots vballots vused vchosen r.1 r.2.1 r.2.2.1 r.2.2.2 vp1_blocks vp1_members)) (dC, dI) A)) (cc := cX0_takeState) (n := 5) (ret := none) (by decide) (Nat.le_of_ble_eq_true rfl) ?_
  intro p e s m args below meth c ls A hx hb hr hml hts hown hlocks hnm hA hK hP hD hS hl
  have hD : va_D A [(q_this, .inr (0, [.int vballots, .int vused, .int vchosen, .int vwaiter, .int vwait, .ref q_wrote, .ref q_writes, .ref q_counts])), (q_wrote, .inl (cI, 6, .inl vwrote)), (q_counts, .inl (cI, 5, .inl vcounts)), (q_p1, .inr (5, [.int vp1_blocks, .ref q_p1_members, .ref q_p1_moves, .ref q_p1_digits, .ref q_p1_sizes, .ref q_p1_orders, .ref q_p1_above, .ref q_p1_below, .ref q_p1_struck, .ref q_p1_lots])), (q_p1_members, .inl (cI, 6, .inl vp1_members))] := hD
  have hP : va_P (dC, dI) classes [(q_this, .inr (0, [.int vballots, .int vused, .int vchosen, .int vwaiter, .int vwait, .ref q_wrote, .ref q_writes, .ref q_counts])), (q_wrote, .inl (cI, 6, .inl vwrote)), (q_counts, .inl (cI, 5, .inl vcounts)), (q_p1, .inr (5, [.int vp1_blocks, .ref q_p1_members, .ref q_p1_moves, .ref q_p1_digits, .ref q_p1_sizes, .ref q_p1_orders, .ref q_p1_above, .ref q_p1_below, .ref q_p1_struck, .ref q_p1_lots])), (q_p1_members, .inl (cI, 6, .inl vp1_members))] s.heap := hP
  have hG : ∀ w ∈ wsL_law, w.before args s = true := fun w h => hts w (List.mem_cons_of_mem _ h)
  have hown : s.vm.findClass RX0 = some m.cls := hown
  have hl : lv_has ls 5 [(0, .ref q_this), (1, .ref q_p1), (2, .int x2)] := hl
  unfold f_X0_takeState at hf
  have hL15 : ∀ (n : Nat) (vwaiter : Int32) (vwait : Int32) (x3 : Int32) (x4 : Int32) (vwrote : Nat → Int32) (res15 : Int32 × Int32 × (Nat → Int32)), lp (fun s => f_X0_takeState_B15 s.1 s.2.1 s.2.2) n (x3, x4, vwrote) = some res15 → ∀ (H : Heap) (locs : List Loc) (ls : Array Slot), va_P (dC, dI) classes [(q_this, .inr (0, [.int vballots, .int vused, .int vchosen, .int vwaiter, .int vwait, .ref q_wrote, .ref q_writes, .ref q_counts])), (q_wrote, .inl (cI, 6, .inl vwrote)), (q_counts, .inl (cI, 5, .inl vcounts)), (q_p1, .inr (5, [.int vp1_blocks, .ref q_p1_members, .ref q_p1_moves, .ref q_p1_digits, .ref q_p1_sizes, .ref q_p1_orders, .ref q_p1_above, .ref q_p1_below, .ref q_p1_struck, .ref q_p1_lots])), (q_p1_members, .inl (cI, 6, .inl vp1_members))] H → va_D A [(q_this, .inr (0, [.int vballots, .int vused, .int vchosen, .int vwaiter, .int vwait, .ref q_wrote, .ref q_writes, .ref q_counts])), (q_wrote, .inl (cI, 6, .inl vwrote)), (q_counts, .inl (cI, 5, .inl vcounts)), (q_p1, .inr (5, [.int vp1_blocks, .ref q_p1_members, .ref q_p1_moves, .ref q_p1_digits, .ref q_p1_sizes, .ref q_p1_orders, .ref q_p1_above, .ref q_p1_below, .ref q_p1_struck, .ref q_p1_lots])), (q_p1_members, .inl (cI, 6, .inl vp1_members))] → va_S A s.heap H locs → lv_has ls 5 [(0, .ref q_this), (1, .ref q_p1), (3, .int x3), (4, .int x4)] → (∀ (H : Heap) (locs : List Loc) (ls : Array Slot), va_P (dC, dI) classes [(q_this, .inr (0, [.int vballots, .int vused, .int vchosen, .int vwaiter, .int vwait, .ref q_wrote, .ref q_writes, .ref q_counts])), (q_wrote, .inl (cI, 6, .inl res15.2.2)), (q_counts, .inl (cI, 5, .inl vcounts)), (q_p1, .inr (5, [.int vp1_blocks, .ref q_p1_members, .ref q_p1_moves, .ref q_p1_digits, .ref q_p1_sizes, .ref q_p1_orders, .ref q_p1_above, .ref q_p1_below, .ref q_p1_struck, .ref q_p1_lots])), (q_p1_members, .inl (cI, 6, .inl vp1_members))] H → va_D A [(q_this, .inr (0, [.int vballots, .int vused, .int vchosen, .int vwaiter, .int vwait, .ref q_wrote, .ref q_writes, .ref q_counts])), (q_wrote, .inl (cI, 6, .inl res15.2.2)), (q_counts, .inl (cI, 5, .inl vcounts)), (q_p1, .inr (5, [.int vp1_blocks, .ref q_p1_members, .ref q_p1_moves, .ref q_p1_digits, .ref q_p1_sizes, .ref q_p1_orders, .ref q_p1_above, .ref q_p1_below, .ref q_p1_struck, .ref q_p1_lots])), (q_p1_members, .inl (cI, 6, .inl vp1_members))] → va_S A s.heap H locs → lv_has ls 5 [(0, .ref q_this), (1, .ref q_p1)] → W p l e (kR 2) s m args below meth c H locs 0 0 (MQ below (qWv (fun w => w = (w_X0_takeState cI cJ cB q_this q_p1 q_wrote q_writes q_counts q_p1_members q_p1_moves q_p1_digits q_p1_sizes q_p1_orders q_p1_above q_p1_below q_p1_struck q_p1_lots vballots vused vchosen r.1 r.2.1 r.2.2.1 r.2.2.2 vp1_blocks vp1_members)) (dC, dI) A) args s 0 0 A) (F0 m 46 ls [])) → W p l e (kR 2) s m args below meth c H locs 0 0 (MQ below (qWv (fun w => w = (w_X0_takeState cI cJ cB q_this q_p1 q_wrote q_writes q_counts q_p1_members q_p1_moves q_p1_digits q_p1_sizes q_p1_orders q_p1_above q_p1_below q_p1_struck q_p1_lots vballots vused vchosen r.1 r.2.1 r.2.2.1 r.2.2.2 vp1_blocks vp1_members)) (dC, dI) A) args s 0 0 A) (F0 m 15 ls []) := by
    intro n
    induction n with
    | zero => intro vwaiter vwait x3 x4 vwrote res15 h9; exact (lp_zero h9).elim
    | succ n ih =>
      intro vwaiter vwait x3 x4 vwrote res15 h9 H locs ls hP hD hS hl K
      obtain ⟨o15, hf, hnext, hexit⟩ := lp_succ h9
      have hf : f_X0_takeState_B15 x3 x4 vwrote = some o15 := hf
      unfold f_X0_takeState_B15 at hf
      refine lv_iload hx hb dX0_takeState_15 (lv_at hl 3 rfl) ?_
      refine lv_bipush (v := (6 : Int32)) hx hb dX0_takeState_17 (by decide) ?_
      refine lv_icmp_ge (tgt := 46) hx hb dX0_takeState_19 (by decide) (fun c1 => ?_) (fun c1 => ?_)
      · replace hf := ot hf c1
        have hf := hexit _ (osi hf).symm
        subst hf
        exact K  _ _ ls hP hD hS (lv_sub hl [0, 1] rfl)
      · replace hf := oe hf c1
        refine lv_aload_n hx hb dX0_takeState_22 rfl (lv_at hl 0 rfl) ?_
        refine p_get (D := (dC, dI)) (ci := 0) (v := .ref q_wrote) (C := RX0) (T := TX0) (N := 8) 5 fX0_5 hx hb hG inlX0 hown hK.1 hP 0 rfl rfl (by decide) (hG _ mw_75) rfl dX0_takeState_23 ?_
        refine lv_iload hx hb dX0_takeState_26 (lv_at hl 3 rfl) ?_
        refine lv_iload_n hx hb dX0_takeState_28 rfl (lv_at hl 2 rfl) ?_
        refine lv_bipush (v := (6 : Int32)) hx hb dX0_takeState_29 (by decide) ?_
        refine lv_irem hx hb dX0_takeState_31 (by decide) ?_
        refine lv_iconst (v := (1 : Int32)) hx hb dX0_takeState_32 (by decide) ?_
        refine lv_isub hx hb dX0_takeState_33 ?_
        obtain ⟨g2, hf⟩ := og hf
        refine va_iast hx hb hK.1 hP hD hS 1 0 rfl rfl g2 dX0_takeState_34 (fun H locs hP hD hS => ?_)
        have hP : va_P (dC, dI) classes [(q_this, .inr (0, [.int vballots, .int vused, .int vchosen, .int vwaiter, .int vwait, .ref q_wrote, .ref q_writes, .ref q_counts])), (q_wrote, .inl (cI, 6, .inl (upd vwrote x4.toNatClampNeg ((x3 - x3 / (6 : Int32) * (6 : Int32)) - (1 : Int32))))), (q_counts, .inl (cI, 5, .inl vcounts)), (q_p1, .inr (5, [.int vp1_blocks, .ref q_p1_members, .ref q_p1_moves, .ref q_p1_digits, .ref q_p1_sizes, .ref q_p1_orders, .ref q_p1_above, .ref q_p1_below, .ref q_p1_struck, .ref q_p1_lots])), (q_p1_members, .inl (cI, 6, .inl vp1_members))] H := hP
        have hD : va_D A [(q_this, .inr (0, [.int vballots, .int vused, .int vchosen, .int vwaiter, .int vwait, .ref q_wrote, .ref q_writes, .ref q_counts])), (q_wrote, .inl (cI, 6, .inl (upd vwrote x4.toNatClampNeg ((x3 - x3 / (6 : Int32) * (6 : Int32)) - (1 : Int32))))), (q_counts, .inl (cI, 5, .inl vcounts)), (q_p1, .inr (5, [.int vp1_blocks, .ref q_p1_members, .ref q_p1_moves, .ref q_p1_digits, .ref q_p1_sizes, .ref q_p1_orders, .ref q_p1_above, .ref q_p1_below, .ref q_p1_struck, .ref q_p1_lots])), (q_p1_members, .inl (cI, 6, .inl vp1_members))] := hD
        refine lv_iload_n hx hb dX0_takeState_35 rfl (lv_at hl 2 rfl) ?_
        refine lv_bipush (v := (6 : Int32)) hx hb dX0_takeState_36 (by decide) ?_
        refine lv_idiv hx hb dX0_takeState_38 (by decide) ?_
        refine lv_istore_n (lv' := [(3, .int (x3 / (6 : Int32))), (0, .ref q_this), (1, .ref q_p1), (4, .int x4)]) hx hb dX0_takeState_39 rfl hl (by decide) rfl (fun ls hl => ?_)
        refine lv_iinc (v := (x4 + (1 : Int32))) (lv' := [(4, .int (x4 + (1 : Int32))), (3, .int (x3 / (6 : Int32))), (0, .ref q_this), (1, .ref q_p1)]) hx hb dX0_takeState_40 hl (k := 3) rfl rfl (by decide) rfl (fun ls hl => ?_)
        refine lv_goto (tgt := 15) hx hb dX0_takeState_43 (by decide) ?_
        exact ih vwaiter vwait (x3 / (6 : Int32)) (x4 + (1 : Int32)) (upd vwrote x4.toNatClampNeg ((x3 - x3 / (6 : Int32) * (6 : Int32)) - (1 : Int32))) res15 (hnext _ (osi hf).symm) _ _ ls hP hD hS (lv_sub hl [2, 3, 1, 0] rfl) K
  refine lv_aload_n hx hb dX0_takeState_0 rfl (lv_at hl 0 rfl) ?_
  refine lv_iconst (v := (-1 : Int32)) hx hb dX0_takeState_1 (by decide) ?_
  refine p_put (D := (dC, dI)) (ci := 0) (v := .int (-1 : Int32)) (ty := .int) (C := RX0) (T := TX0) (N := 8) 3 fX0_3 hx hb hG inlX0 tyX0 tyX0_ok nmX0 hown hK.1 hP hD hS 0 rfl rfl (by decide) (hG _ mw_73) rfl (by decide +kernel) rfl rfl (Nat.le_of_ble_eq_true rfl) dX0_takeState_2 (fun H locs hP hD hS => ?_)
  have hP : va_P (dC, dI) classes [(q_this, .inr (0, [.int vballots, .int vused, .int vchosen, .int (-1 : Int32), .int vwait, .ref q_wrote, .ref q_writes, .ref q_counts])), (q_wrote, .inl (cI, 6, .inl vwrote)), (q_counts, .inl (cI, 5, .inl vcounts)), (q_p1, .inr (5, [.int vp1_blocks, .ref q_p1_members, .ref q_p1_moves, .ref q_p1_digits, .ref q_p1_sizes, .ref q_p1_orders, .ref q_p1_above, .ref q_p1_below, .ref q_p1_struck, .ref q_p1_lots])), (q_p1_members, .inl (cI, 6, .inl vp1_members))] H := hP
  have hD : va_D A [(q_this, .inr (0, [.int vballots, .int vused, .int vchosen, .int (-1 : Int32), .int vwait, .ref q_wrote, .ref q_writes, .ref q_counts])), (q_wrote, .inl (cI, 6, .inl vwrote)), (q_counts, .inl (cI, 5, .inl vcounts)), (q_p1, .inr (5, [.int vp1_blocks, .ref q_p1_members, .ref q_p1_moves, .ref q_p1_digits, .ref q_p1_sizes, .ref q_p1_orders, .ref q_p1_above, .ref q_p1_below, .ref q_p1_struck, .ref q_p1_lots])), (q_p1_members, .inl (cI, 6, .inl vp1_members))] := hD
  refine lv_aload_n hx hb dX0_takeState_5 rfl (lv_at hl 0 rfl) ?_
  refine lv_iconst (v := (0 : Int32)) hx hb dX0_takeState_6 (by decide) ?_
  refine p_put (D := (dC, dI)) (ci := 0) (v := .int (0 : Int32)) (ty := .int) (C := RX0) (T := TX0) (N := 8) 4 fX0_4 hx hb hG inlX0 tyX0 tyX0_ok nmX0 hown hK.1 hP hD hS 0 rfl rfl (by decide) (hG _ mw_74) rfl (by decide +kernel) rfl rfl (Nat.le_of_ble_eq_true rfl) dX0_takeState_7 (fun H locs hP hD hS => ?_)
  have hP : va_P (dC, dI) classes [(q_this, .inr (0, [.int vballots, .int vused, .int vchosen, .int (-1 : Int32), .int (0 : Int32), .ref q_wrote, .ref q_writes, .ref q_counts])), (q_wrote, .inl (cI, 6, .inl vwrote)), (q_counts, .inl (cI, 5, .inl vcounts)), (q_p1, .inr (5, [.int vp1_blocks, .ref q_p1_members, .ref q_p1_moves, .ref q_p1_digits, .ref q_p1_sizes, .ref q_p1_orders, .ref q_p1_above, .ref q_p1_below, .ref q_p1_struck, .ref q_p1_lots])), (q_p1_members, .inl (cI, 6, .inl vp1_members))] H := hP
  have hD : va_D A [(q_this, .inr (0, [.int vballots, .int vused, .int vchosen, .int (-1 : Int32), .int (0 : Int32), .ref q_wrote, .ref q_writes, .ref q_counts])), (q_wrote, .inl (cI, 6, .inl vwrote)), (q_counts, .inl (cI, 5, .inl vcounts)), (q_p1, .inr (5, [.int vp1_blocks, .ref q_p1_members, .ref q_p1_moves, .ref q_p1_digits, .ref q_p1_sizes, .ref q_p1_orders, .ref q_p1_above, .ref q_p1_below, .ref q_p1_struck, .ref q_p1_lots])), (q_p1_members, .inl (cI, 6, .inl vp1_members))] := hD
  refine lv_iload_n hx hb dX0_takeState_10 rfl (lv_at hl 2 rfl) ?_
  refine lv_istore_n (lv' := [(3, .int x2), (0, .ref q_this), (1, .ref q_p1), (2, .int x2)]) hx hb dX0_takeState_11 rfl hl (by decide) rfl (fun ls hl => ?_)
  refine lv_iconst (v := (0 : Int32)) hx hb dX0_takeState_12 (by decide) ?_
  refine lv_istore (lv' := [(4, .int (0 : Int32)), (3, .int x2), (0, .ref q_this), (1, .ref q_p1), (2, .int x2)]) hx hb dX0_takeState_13 hl (by decide) rfl (fun ls hl => ?_)
  obtain ⟨e3, hp3, hf⟩ := ob hf
  refine hL15 N (-1 : Int32) (0 : Int32) x2 (0 : Int32) vwrote e3 hp3 _ _ ls hP hD hS (lv_sub hl [2, 3, 1, 0] rfl) (fun  H locs ls hP hD hS hl => ?_)
  have hP : va_P (dC, dI) classes [(q_this, .inr (0, [.int vballots, .int vused, .int vchosen, .int (-1 : Int32), .int (0 : Int32), .ref q_wrote, .ref q_writes, .ref q_counts])), (q_wrote, .inl (cI, 6, .inl e3.2.2)), (q_counts, .inl (cI, 5, .inl vcounts)), (q_p1, .inr (5, [.int vp1_blocks, .ref q_p1_members, .ref q_p1_moves, .ref q_p1_digits, .ref q_p1_sizes, .ref q_p1_orders, .ref q_p1_above, .ref q_p1_below, .ref q_p1_struck, .ref q_p1_lots])), (q_p1_members, .inl (cI, 6, .inl vp1_members))] H := hP
  have hD : va_D A [(q_this, .inr (0, [.int vballots, .int vused, .int vchosen, .int (-1 : Int32), .int (0 : Int32), .ref q_wrote, .ref q_writes, .ref q_counts])), (q_wrote, .inl (cI, 6, .inl e3.2.2)), (q_counts, .inl (cI, 5, .inl vcounts)), (q_p1, .inr (5, [.int vp1_blocks, .ref q_p1_members, .ref q_p1_moves, .ref q_p1_digits, .ref q_p1_sizes, .ref q_p1_orders, .ref q_p1_above, .ref q_p1_below, .ref q_p1_struck, .ref q_p1_lots])), (q_p1_members, .inl (cI, 6, .inl vp1_members))] := hD
  have hl : lv_has ls 5 [(0, .ref q_this), (1, .ref q_p1)] := hl
  refine lv_aload_n hx hb dX0_takeState_46 rfl (lv_at hl 0 rfl) ?_
  refine lv_aload_n hx hb dX0_takeState_47 rfl (lv_at hl 1 rfl) ?_
  obtain ⟨u4, hu4, hf⟩ := ob hf
  refine k_VWv (As := [.ref q_p1]) (rest := []) (wr := []) ⟨hx, hb, hml, hown, hts⟩ hK hP hD hS hA [0, 1, 2, 3, 4] [] rfl rfl (by decide) (by decide) (by decide) (c_X0_tally l dC dI cI cJ cB q_this q_p1 q_wrote q_writes q_counts q_p1_members q_p1_moves q_p1_digits q_p1_sizes q_p1_orders q_p1_above q_p1_below q_p1_struck q_p1_lots vballots vused vchosen (-1 : Int32) (0 : Int32) e3.2.2 vcounts vp1_blocks vp1_members _ hu4) (gl_X0_111 hts ⟨(Nat.le_of_ble_eq_true rfl), (Nat.le_of_ble_eq_true rfl)⟩) 0 0 rfl rfl rfl rfl hl.1 rfl (Nat.le_of_ble_eq_true rfl) dX0_takeState_48 ⟨(Nat.le_of_ble_eq_true rfl), (Nat.le_of_ble_eq_true rfl)⟩ (fun w H locs hE hP hD hS => ?_)
  subst hE
  have hP : va_P (dC, dI) classes [(q_this, .inr (0, [.int vballots, .int vused, .int vchosen, .int (-1 : Int32), .int (0 : Int32), .ref q_wrote, .ref q_writes, .ref q_counts])), (q_wrote, .inl (cI, 6, .inl e3.2.2)), (q_counts, .inl (cI, 5, .inl u4)), (q_p1, .inr (5, [.int vp1_blocks, .ref q_p1_members, .ref q_p1_moves, .ref q_p1_digits, .ref q_p1_sizes, .ref q_p1_orders, .ref q_p1_above, .ref q_p1_below, .ref q_p1_struck, .ref q_p1_lots])), (q_p1_members, .inl (cI, 6, .inl vp1_members))] H := hP
  have hD : va_D A [(q_this, .inr (0, [.int vballots, .int vused, .int vchosen, .int (-1 : Int32), .int (0 : Int32), .ref q_wrote, .ref q_writes, .ref q_counts])), (q_wrote, .inl (cI, 6, .inl e3.2.2)), (q_counts, .inl (cI, 5, .inl u4)), (q_p1, .inr (5, [.int vp1_blocks, .ref q_p1_members, .ref q_p1_moves, .ref q_p1_digits, .ref q_p1_sizes, .ref q_p1_orders, .ref q_p1_above, .ref q_p1_below, .ref q_p1_struck, .ref q_p1_lots])), (q_p1_members, .inl (cI, 6, .inl vp1_members))] := hD
  have hf := osi hf
  exact x_vW hx hb hr hlocks hP hD hS (by have h9 := congrArg (fun z : Int32 × Int32 × (Nat → Int32) × (Nat → Int32) => (w_X0_takeState cI cJ cB q_this q_p1 q_wrote q_writes q_counts q_p1_members q_p1_moves q_p1_digits q_p1_sizes q_p1_orders q_p1_above q_p1_below q_p1_struck q_p1_lots vballots vused vchosen z.1 z.2.1 z.2.2.1 z.2.2.2 vp1_blocks vp1_members)) hf; exact h9) dX0_takeState_51
