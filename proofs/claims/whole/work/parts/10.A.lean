def f_J6_bitCount_0f7a4 (x0 : Int32) : Option (Int32) := some ((((((((x0 - (((x0.toUInt32 >>> ((1 : Int32).toUInt32 &&& Int32.toUInt32 31)).toInt32) &&& (1431655765 : Int32))) &&& (858993459 : Int32)) + ((((x0 - (((x0.toUInt32 >>> ((1 : Int32).toUInt32 &&& Int32.toUInt32 31)).toInt32) &&& (1431655765 : Int32))).toUInt32 >>> ((2 : Int32).toUInt32 &&& Int32.toUInt32 31)).toInt32) &&& (858993459 : Int32))) + (((((x0 - (((x0.toUInt32 >>> ((1 : Int32).toUInt32 &&& Int32.toUInt32 31)).toInt32) &&& (1431655765 : Int32))) &&& (858993459 : Int32)) + ((((x0 - (((x0.toUInt32 >>> ((1 : Int32).toUInt32 &&& Int32.toUInt32 31)).toInt32) &&& (1431655765 : Int32))).toUInt32 >>> ((2 : Int32).toUInt32 &&& Int32.toUInt32 31)).toInt32) &&& (858993459 : Int32))).toUInt32 >>> ((4 : Int32).toUInt32 &&& Int32.toUInt32 31)).toInt32)) &&& (252645135 : Int32)) + (((((((x0 - (((x0.toUInt32 >>> ((1 : Int32).toUInt32 &&& Int32.toUInt32 31)).toInt32) &&& (1431655765 : Int32))) &&& (858993459 : Int32)) + ((((x0 - (((x0.toUInt32 >>> ((1 : Int32).toUInt32 &&& Int32.toUInt32 31)).toInt32) &&& (1431655765 : Int32))).toUInt32 >>> ((2 : Int32).toUInt32 &&& Int32.toUInt32 31)).toInt32) &&& (858993459 : Int32))) + (((((x0 - (((x0.toUInt32 >>> ((1 : Int32).toUInt32 &&& Int32.toUInt32 31)).toInt32) &&& (1431655765 : Int32))) &&& (858993459 : Int32)) + ((((x0 - (((x0.toUInt32 >>> ((1 : Int32).toUInt32 &&& Int32.toUInt32 31)).toInt32) &&& (1431655765 : Int32))).toUInt32 >>> ((2 : Int32).toUInt32 &&& Int32.toUInt32 31)).toInt32) &&& (858993459 : Int32))).toUInt32 >>> ((4 : Int32).toUInt32 &&& Int32.toUInt32 31)).toInt32)) &&& (252645135 : Int32)).toUInt32 >>> ((8 : Int32).toUInt32 &&& Int32.toUInt32 31)).toInt32)) + ((((((((x0 - (((x0.toUInt32 >>> ((1 : Int32).toUInt32 &&& Int32.toUInt32 31)).toInt32) &&& (1431655765 : Int32))) &&& (858993459 : Int32)) + ((((x0 - (((x0.toUInt32 >>> ((1 : Int32).toUInt32 &&& Int32.toUInt32 31)).toInt32) &&& (1431655765 : Int32))).toUInt32 >>> ((2 : Int32).toUInt32 &&& Int32.toUInt32 31)).toInt32) &&& (858993459 : Int32))) + (((((x0 - (((x0.toUInt32 >>> ((1 : Int32).toUInt32 &&& Int32.toUInt32 31)).toInt32) &&& (1431655765 : Int32))) &&& (858993459 : Int32)) + ((((x0 - (((x0.toUInt32 >>> ((1 : Int32).toUInt32 &&& Int32.toUInt32 31)).toInt32) &&& (1431655765 : Int32))).toUInt32 >>> ((2 : Int32).toUInt32 &&& Int32.toUInt32 31)).toInt32) &&& (858993459 : Int32))).toUInt32 >>> ((4 : Int32).toUInt32 &&& Int32.toUInt32 31)).toInt32)) &&& (252645135 : Int32)) + (((((((x0 - (((x0.toUInt32 >>> ((1 : Int32).toUInt32 &&& Int32.toUInt32 31)).toInt32) &&& (1431655765 : Int32))) &&& (858993459 : Int32)) + ((((x0 - (((x0.toUInt32 >>> ((1 : Int32).toUInt32 &&& Int32.toUInt32 31)).toInt32) &&& (1431655765 : Int32))).toUInt32 >>> ((2 : Int32).toUInt32 &&& Int32.toUInt32 31)).toInt32) &&& (858993459 : Int32))) + (((((x0 - (((x0.toUInt32 >>> ((1 : Int32).toUInt32 &&& Int32.toUInt32 31)).toInt32) &&& (1431655765 : Int32))) &&& (858993459 : Int32)) + ((((x0 - (((x0.toUInt32 >>> ((1 : Int32).toUInt32 &&& Int32.toUInt32 31)).toInt32) &&& (1431655765 : Int32))).toUInt32 >>> ((2 : Int32).toUInt32 &&& Int32.toUInt32 31)).toInt32) &&& (858993459 : Int32))).toUInt32 >>> ((4 : Int32).toUInt32 &&& Int32.toUInt32 31)).toInt32)) &&& (252645135 : Int32)).toUInt32 >>> ((8 : Int32).toUInt32 &&& Int32.toUInt32 31)).toInt32)).toUInt32 >>> ((16 : Int32).toUInt32 &&& Int32.toUInt32 31)).toInt32)) &&& (63 : Int32))
def w_J6_bitCount_0f7a4 (cI cJ cB : ClassId) : va_W := []
set_option maxHeartbeats 4000000 in
set_option maxRecDepth 100000 in
theorem c_J6_bitCount_0f7a4 (l : Launch) (dC : Nat → ClassId) (dI : Nat → Nat → Nat) (cI cJ cB : ClassId) (x0 : Int32) {r : Int32} (hf : f_J6_bitCount_0f7a4 x0 = some r) : Met l yJ6_bitCount_0f7a4 (Cond.code yJ6_bitCount_0f7a4 cJ6_bitCount_0f7a4 1 (some .int) :: wsL_law) (kR 0) (va_Pc [.int x0] (pR (dC, dI) cI cJ cB (w_J6_bitCount_0f7a4 cI cJ cB ))) (qRi r) 0 0 (fun _ => False) := by
  refine k_ro (cc := cJ6_bitCount_0f7a4) (n := 1) (ret := (some .int)) (by decide) (Nat.le_of_ble_eq_true rfl) ?_
  intro p e s m args below meth c ls hx hb hr hml hts hown hlocks hK hP hl
  have hP : va_P (dC, dI) classes [] s.heap := hP
  have hG : ∀ w ∈ wsL_law, w.before args s = true := fun w h => hts w (List.mem_cons_of_mem _ h)
  have hown : s.vm.findClass RJ6 = some m.cls := hown
  have hl : lv_has ls 1 [(0, .int x0)] := hl
  unfold f_J6_bitCount_0f7a4 at hf
  refine lv_iload_n hx hb dJ6_bitCount_0f7a4_0 rfl (lv_at hl 0 rfl) ?_
  refine lv_iload_n hx hb dJ6_bitCount_0f7a4_1 rfl (lv_at hl 0 rfl) ?_
  refine lv_iconst (v := (1 : Int32)) hx hb dJ6_bitCount_0f7a4_2 (by decide) ?_
  refine lv_iushr hx hb dJ6_bitCount_0f7a4_3 rfl ?_
  refine lv_ldcw (v := (1431655765 : Int32)) hx hb hown (hG _ mw_610) dJ6_bitCount_0f7a4_4 ?_
  refine lv_iand hx hb dJ6_bitCount_0f7a4_7 ?_
  refine lv_isub hx hb dJ6_bitCount_0f7a4_8 ?_
  refine lv_istore_n (lv' := [(0, .int (x0 - (((x0.toUInt32 >>> ((1 : Int32).toUInt32 &&& Int32.toUInt32 31)).toInt32) &&& (1431655765 : Int32))))]) hx hb dJ6_bitCount_0f7a4_9 rfl hl (by decide) rfl (fun ls hl => ?_)
  refine lv_iload_n hx hb dJ6_bitCount_0f7a4_10 rfl (lv_at hl 0 rfl) ?_
  refine lv_ldcw (v := (858993459 : Int32)) hx hb hown (hG _ mw_611) dJ6_bitCount_0f7a4_11 ?_
  refine lv_iand hx hb dJ6_bitCount_0f7a4_14 ?_
  refine lv_iload_n hx hb dJ6_bitCount_0f7a4_15 rfl (lv_at hl 0 rfl) ?_
  refine lv_iconst (v := (2 : Int32)) hx hb dJ6_bitCount_0f7a4_16 (by decide) ?_
  refine lv_iushr hx hb dJ6_bitCount_0f7a4_17 rfl ?_
  refine lv_ldcw (v := (858993459 : Int32)) hx hb hown (hG _ mw_611) dJ6_bitCount_0f7a4_18 ?_
  refine lv_iand hx hb dJ6_bitCount_0f7a4_21 ?_
  refine lv_iadd hx hb dJ6_bitCount_0f7a4_22 ?_
  refine lv_istore_n (lv' := [(0, .int (((x0 - (((x0.toUInt32 >>> ((1 : Int32).toUInt32 &&& Int32.toUInt32 31)).toInt32) &&& (1431655765 : Int32))) &&& (858993459 : Int32)) + ((((x0 - (((x0.toUInt32 >>> ((1 : Int32).toUInt32 &&& Int32.toUInt32 31)).toInt32) &&& (1431655765 : Int32))).toUInt32 >>> ((2 : Int32).toUInt32 &&& Int32.toUInt32 31)).toInt32) &&& (858993459 : Int32))))]) hx hb dJ6_bitCount_0f7a4_23 rfl hl (by decide) rfl (fun ls hl => ?_)
  refine lv_iload_n hx hb dJ6_bitCount_0f7a4_24 rfl (lv_at hl 0 rfl) ?_
  refine lv_iload_n hx hb dJ6_bitCount_0f7a4_25 rfl (lv_at hl 0 rfl) ?_
  refine lv_iconst (v := (4 : Int32)) hx hb dJ6_bitCount_0f7a4_26 (by decide) ?_
  refine lv_iushr hx hb dJ6_bitCount_0f7a4_27 rfl ?_
  refine lv_iadd hx hb dJ6_bitCount_0f7a4_28 ?_
  refine lv_ldcw (v := (252645135 : Int32)) hx hb hown (hG _ mw_612) dJ6_bitCount_0f7a4_29 ?_
  refine lv_iand hx hb dJ6_bitCount_0f7a4_32 ?_
  refine lv_istore_n (lv' := [(0, .int (((((x0 - (((x0.toUInt32 >>> ((1 : Int32).toUInt32 &&& Int32.toUInt32 31)).toInt32) &&& (1431655765 : Int32))) &&& (858993459 : Int32)) + ((((x0 - (((x0.toUInt32 >>> ((1 : Int32).toUInt32 &&& Int32.toUInt32 31)).toInt32) &&& (1431655765 : Int32))).toUInt32 >>> ((2 : Int32).toUInt32 &&& Int32.toUInt32 31)).toInt32) &&& (858993459 : Int32))) + (((((x0 - (((x0.toUInt32 >>> ((1 : Int32).toUInt32 &&& Int32.toUInt32 31)).toInt32) &&& (1431655765 : Int32))) &&& (858993459 : Int32)) + ((((x0 - (((x0.toUInt32 >>> ((1 : Int32).toUInt32 &&& Int32.toUInt32 31)).toInt32) &&& (1431655765 : Int32))).toUInt32 >>> ((2 : Int32).toUInt32 &&& Int32.toUInt32 31)).toInt32) &&& (858993459 : Int32))).toUInt32 >>> ((4 : Int32).toUInt32 &&& Int32.toUInt32 31)).toInt32)) &&& (252645135 : Int32)))]) hx hb dJ6_bitCount_0f7a4_33 rfl hl (by decide) rfl (fun ls hl => ?_)
  refine lv_iload_n hx hb dJ6_bitCount_0f7a4_34 rfl (lv_at hl 0 rfl) ?_
  refine lv_iload_n hx hb dJ6_bitCount_0f7a4_35 rfl (lv_at hl 0 rfl) ?_
  refine lv_bipush (v := (8 : Int32)) hx hb dJ6_bitCount_0f7a4_36 (by decide) ?_
  refine lv_iushr hx hb dJ6_bitCount_0f7a4_38 rfl ?_
  refine lv_iadd hx hb dJ6_bitCount_0f7a4_39 ?_
  refine lv_istore_n (lv' := [(0, .int ((((((x0 - (((x0.toUInt32 >>> ((1 : Int32).toUInt32 &&& Int32.toUInt32 31)).toInt32) &&& (1431655765 : Int32))) &&& (858993459 : Int32)) + ((((x0 - (((x0.toUInt32 >>> ((1 : Int32).toUInt32 &&& Int32.toUInt32 31)).toInt32) &&& (1431655765 : Int32))).toUInt32 >>> ((2 : Int32).toUInt32 &&& Int32.toUInt32 31)).toInt32) &&& (858993459 : Int32))) + (((((x0 - (((x0.toUInt32 >>> ((1 : Int32).toUInt32 &&& Int32.toUInt32 31)).toInt32) &&& (1431655765 : Int32))) &&& (858993459 : Int32)) + ((((x0 - (((x0.toUInt32 >>> ((1 : Int32).toUInt32 &&& Int32.toUInt32 31)).toInt32) &&& (1431655765 : Int32))).toUInt32 >>> ((2 : Int32).toUInt32 &&& Int32.toUInt32 31)).toInt32) &&& (858993459 : Int32))).toUInt32 >>> ((4 : Int32).toUInt32 &&& Int32.toUInt32 31)).toInt32)) &&& (252645135 : Int32)) + (((((((x0 - (((x0.toUInt32 >>> ((1 : Int32).toUInt32 &&& Int32.toUInt32 31)).toInt32) &&& (1431655765 : Int32))) &&& (858993459 : Int32)) + ((((x0 - (((x0.toUInt32 >>> ((1 : Int32).toUInt32 &&& Int32.toUInt32 31)).toInt32) &&& (1431655765 : Int32))).toUInt32 >>> ((2 : Int32).toUInt32 &&& Int32.toUInt32 31)).toInt32) &&& (858993459 : Int32))) + (((((x0 - (((x0.toUInt32 >>> ((1 : Int32).toUInt32 &&& Int32.toUInt32 31)).toInt32) &&& (1431655765 : Int32))) &&& (858993459 : Int32)) + ((((x0 - (((x0.toUInt32 >>> ((1 : Int32).toUInt32 &&& Int32.toUInt32 31)).toInt32) &&& (1431655765 : Int32))).toUInt32 >>> ((2 : Int32).toUInt32 &&& Int32.toUInt32 31)).toInt32) &&& (858993459 : Int32))).toUInt32 >>> ((4 : Int32).toUInt32 &&& Int32.toUInt32 31)).toInt32)) &&& (252645135 : Int32)).toUInt32 >>> ((8 : Int32).toUInt32 &&& Int32.toUInt32 31)).toInt32)))]) hx hb dJ6_bitCount_0f7a4_40 rfl hl (by decide) rfl (fun ls hl => ?_)
  refine lv_iload_n hx hb dJ6_bitCount_0f7a4_41 rfl (lv_at hl 0 rfl) ?_
  refine lv_iload_n hx hb dJ6_bitCount_0f7a4_42 rfl (lv_at hl 0 rfl) ?_
  refine lv_bipush (v := (16 : Int32)) hx hb dJ6_bitCount_0f7a4_43 (by decide) ?_
  refine lv_iushr hx hb dJ6_bitCount_0f7a4_45 rfl ?_
  refine lv_iadd hx hb dJ6_bitCount_0f7a4_46 ?_
  refine lv_istore_n (lv' := [(0, .int (((((((x0 - (((x0.toUInt32 >>> ((1 : Int32).toUInt32 &&& Int32.toUInt32 31)).toInt32) &&& (1431655765 : Int32))) &&& (858993459 : Int32)) + ((((x0 - (((x0.toUInt32 >>> ((1 : Int32).toUInt32 &&& Int32.toUInt32 31)).toInt32) &&& (1431655765 : Int32))).toUInt32 >>> ((2 : Int32).toUInt32 &&& Int32.toUInt32 31)).toInt32) &&& (858993459 : Int32))) + (((((x0 - (((x0.toUInt32 >>> ((1 : Int32).toUInt32 &&& Int32.toUInt32 31)).toInt32) &&& (1431655765 : Int32))) &&& (858993459 : Int32)) + ((((x0 - (((x0.toUInt32 >>> ((1 : Int32).toUInt32 &&& Int32.toUInt32 31)).toInt32) &&& (1431655765 : Int32))).toUInt32 >>> ((2 : Int32).toUInt32 &&& Int32.toUInt32 31)).toInt32) &&& (858993459 : Int32))).toUInt32 >>> ((4 : Int32).toUInt32 &&& Int32.toUInt32 31)).toInt32)) &&& (252645135 : Int32)) + (((((((x0 - (((x0.toUInt32 >>> ((1 : Int32).toUInt32 &&& Int32.toUInt32 31)).toInt32) &&& (1431655765 : Int32))) &&& (858993459 : Int32)) + ((((x0 - (((x0.toUInt32 >>> ((1 : Int32).toUInt32 &&& Int32.toUInt32 31)).toInt32) &&& (1431655765 : Int32))).toUInt32 >>> ((2 : Int32).toUInt32 &&& Int32.toUInt32 31)).toInt32) &&& (858993459 : Int32))) + (((((x0 - (((x0.toUInt32 >>> ((1 : Int32).toUInt32 &&& Int32.toUInt32 31)).toInt32) &&& (1431655765 : Int32))) &&& (858993459 : Int32)) + ((((x0 - (((x0.toUInt32 >>> ((1 : Int32).toUInt32 &&& Int32.toUInt32 31)).toInt32) &&& (1431655765 : Int32))).toUInt32 >>> ((2 : Int32).toUInt32 &&& Int32.toUInt32 31)).toInt32) &&& (858993459 : Int32))).toUInt32 >>> ((4 : Int32).toUInt32 &&& Int32.toUInt32 31)).toInt32)) &&& (252645135 : Int32)).toUInt32 >>> ((8 : Int32).toUInt32 &&& Int32.toUInt32 31)).toInt32)) + ((((((((x0 - (((x0.toUInt32 >>> ((1 : Int32).toUInt32 &&& Int32.toUInt32 31)).toInt32) &&& (1431655765 : Int32))) &&& (858993459 : Int32)) + ((((x0 - (((x0.toUInt32 >>> ((1 : Int32).toUInt32 &&& Int32.toUInt32 31)).toInt32) &&& (1431655765 : Int32))).toUInt32 >>> ((2 : Int32).toUInt32 &&& Int32.toUInt32 31)).toInt32) &&& (858993459 : Int32))) + (((((x0 - (((x0.toUInt32 >>> ((1 : Int32).toUInt32 &&& Int32.toUInt32 31)).toInt32) &&& (1431655765 : Int32))) &&& (858993459 : Int32)) + ((((x0 - (((x0.toUInt32 >>> ((1 : Int32).toUInt32 &&& Int32.toUInt32 31)).toInt32) &&& (1431655765 : Int32))).toUInt32 >>> ((2 : Int32).toUInt32 &&& Int32.toUInt32 31)).toInt32) &&& (858993459 : Int32))).toUInt32 >>> ((4 : Int32).toUInt32 &&& Int32.toUInt32 31)).toInt32)) &&& (252645135 : Int32)) + (((((((x0 - (((x0.toUInt32 >>> ((1 : Int32).toUInt32 &&& Int32.toUInt32 31)).toInt32) &&& (1431655765 : Int32))) &&& (858993459 : Int32)) + ((((x0 - (((x0.toUInt32 >>> ((1 : Int32).toUInt32 &&& Int32.toUInt32 31)).toInt32) &&& (1431655765 : Int32))).toUInt32 >>> ((2 : Int32).toUInt32 &&& Int32.toUInt32 31)).toInt32) &&& (858993459 : Int32))) + (((((x0 - (((x0.toUInt32 >>> ((1 : Int32).toUInt32 &&& Int32.toUInt32 31)).toInt32) &&& (1431655765 : Int32))) &&& (858993459 : Int32)) + ((((x0 - (((x0.toUInt32 >>> ((1 : Int32).toUInt32 &&& Int32.toUInt32 31)).toInt32) &&& (1431655765 : Int32))).toUInt32 >>> ((2 : Int32).toUInt32 &&& Int32.toUInt32 31)).toInt32) &&& (858993459 : Int32))).toUInt32 >>> ((4 : Int32).toUInt32 &&& Int32.toUInt32 31)).toInt32)) &&& (252645135 : Int32)).toUInt32 >>> ((8 : Int32).toUInt32 &&& Int32.toUInt32 31)).toInt32)).toUInt32 >>> ((16 : Int32).toUInt32 &&& Int32.toUInt32 31)).toInt32)))]) hx hb dJ6_bitCount_0f7a4_47 rfl hl (by decide) rfl (fun ls hl => ?_)
  refine lv_iload_n hx hb dJ6_bitCount_0f7a4_48 rfl (lv_at hl 0 rfl) ?_
  refine lv_bipush (v := (63 : Int32)) hx hb dJ6_bitCount_0f7a4_49 (by decide) ?_
  refine lv_iand hx hb dJ6_bitCount_0f7a4_51 ?_
  have hf := osi hf
  exact x_iR hx hb hr hlocks hf dJ6_bitCount_0f7a4_52
def f_J7_fill_53178_B5 (np1 : Nat) (x1 : Int32) (x3 : Int32) (x2 : Int32) (vp1 : Nat → Int32) : Option ((Int32 × (Nat → Int32)) ⊕ ((Nat → Int32))) := (if x3 ≤ x2 then some (.inr vp1) else (if x2 < 0 ∨ np1 ≤ x2.toNatClampNeg then none else some (.inl ((x2 + (1 : Int32)), (upd vp1 x2.toNatClampNeg x1)))))
def f_J7_fill_53178 (N : Nat) (np1 : Nat) (vp1 : Nat → Int32) (x1 : Int32) : Option ((Nat → Int32)) := ((lp (fun s => f_J7_fill_53178_B5 np1 x1 (Int32.ofNat np1) s.1 s.2) N ((0 : Int32), vp1)).bind (fun e3 => some e3))
def w_J7_fill_53178 (cI cJ cB : ClassId) (q_p1 : Nat) (np1 : Nat) (vp1 : Nat → Int32) : va_W := [(q_p1, .inl (cI, np1, .inl vp1))]
set_option maxHeartbeats 4000000 in
set_option maxRecDepth 100000 in
theorem c_J7_fill_53178 (l : Launch) (dC : Nat → ClassId) (dI : Nat → Nat → Nat) (cI cJ cB : ClassId) (q_p1 : Nat) (np1 : Nat) (vp1 : Nat → Int32) (x1 : Int32) (sz : Nat) {N : Nat} {r : (Nat → Int32)} (hf : f_J7_fill_53178 N np1 vp1 x1 = some r) : Met l yJ7_fill_53178 (Cond.code yJ7_fill_53178 cJ7_fill_53178 4 none :: wsL_law) (kR 0) (va_Pc [.ref q_p1, .int x1] (pW (dC, dI) cI cJ cB (w_J7_fill_53178 cI cJ cB q_p1 np1 vp1) sz)) (qWv (fun w => w = (w_J7_fill_53178 cI cJ cB q_p1 np1 r)) (dC, dI) (va_A (w_J7_fill_53178 cI cJ cB q_p1 np1 vp1) sz)) 0 0 (va_A (w_J7_fill_53178 cI cJ cB q_p1 np1 vp1) sz) := by
  refine k_wr (Qc := fun A => (qWv (fun w => w = (w_J7_fill_53178 cI cJ cB q_p1 np1 r)) (dC, dI) A)) (cc := cJ7_fill_53178) (n := 4) (ret := none) (by decide) (Nat.le_of_ble_eq_true rfl) ?_
  intro p e s m args below meth c ls A hx hb hr hml hts hown hlocks hnm hA hK hP hD hS hl
  have hD : va_D A [(q_p1, .inl (cI, np1, .inl vp1))] := hD
  have hP : va_P (dC, dI) classes [(q_p1, .inl (cI, np1, .inl vp1))] s.heap := hP
  have hG : ∀ w ∈ wsL_law, w.before args s = true := fun w h => hts w (List.mem_cons_of_mem _ h)
  have hown : s.vm.findClass RJ7 = some m.cls := hown
  have hl : lv_has ls 4 [(0, .ref q_p1), (1, .int x1)] := hl
  unfold f_J7_fill_53178 at hf
  have hL5 : ∀ (n : Nat) (x3 : Int32) (x2 : Int32) (vp1 : Nat → Int32) (res5 : (Nat → Int32)), lp (fun s => f_J7_fill_53178_B5 np1 x1 x3 s.1 s.2) n (x2, vp1) = some res5 → ∀ (H : Heap) (locs : List Loc) (ls : Array Slot), va_P (dC, dI) classes [(q_p1, .inl (cI, np1, .inl vp1))] H → va_D A [(q_p1, .inl (cI, np1, .inl vp1))] → va_S A s.heap H locs → lv_has ls 4 [(0, .ref q_p1), (1, .int x1), (2, .int x2), (3, .int x3)] → (∀ q9 : (Nat → Int32), res5 = q9 → q9 = r) → W p l e (kR 0) s m args below meth c H locs 0 0 (MQ below (qWv (fun w => w = (w_J7_fill_53178 cI cJ cB q_p1 np1 r)) (dC, dI) A) args s 0 0 A) (F0 m 5 ls []) := by
    intro n
    induction n with
    | zero => intro x3 x2 vp1 res5 h9; exact (lp_zero h9).elim
    | succ n ih =>
      intro x3 x2 vp1 res5 h9 H locs ls hP hD hS hl KR
      obtain ⟨o5, hf, hnext, hexit⟩ := lp_succ h9
      have hf : f_J7_fill_53178_B5 np1 x1 x3 x2 vp1 = some o5 := hf
      unfold f_J7_fill_53178_B5 at hf
      refine lv_iload_n hx hb dJ7_fill_53178_5 rfl (lv_at hl 2 rfl) ?_
      refine lv_iload_n hx hb dJ7_fill_53178_6 rfl (lv_at hl 3 rfl) ?_
      refine lv_icmp_ge (tgt := 20) hx hb dJ7_fill_53178_7 (by decide) (fun c1 => ?_) (fun c1 => ?_)
      · replace hf := ot hf c1
        have hf := KR _ (hexit _ (osi hf).symm).symm
        exact x_vW hx hb hr hlocks hP hD hS (by have h9 := congrArg (fun z : (Nat → Int32) => (w_J7_fill_53178 cI cJ cB q_p1 np1 z)) hf; exact h9) dJ7_fill_53178_20
      · replace hf := oe hf c1
        refine lv_aload_n hx hb dJ7_fill_53178_10 rfl (lv_at hl 0 rfl) ?_
        refine lv_iload_n hx hb dJ7_fill_53178_11 rfl (lv_at hl 2 rfl) ?_
        refine lv_iload_n hx hb dJ7_fill_53178_12 rfl (lv_at hl 1 rfl) ?_
        obtain ⟨g2, hf⟩ := og hf
        refine va_iast hx hb hK.1 hP hD hS 0 0 rfl rfl g2 dJ7_fill_53178_13 (fun H locs hP hD hS => ?_)
        have hP : va_P (dC, dI) classes [(q_p1, .inl (cI, np1, .inl (upd vp1 x2.toNatClampNeg x1)))] H := hP
        have hD : va_D A [(q_p1, .inl (cI, np1, .inl (upd vp1 x2.toNatClampNeg x1)))] := hD
        refine lv_iinc (v := (x2 + (1 : Int32))) (lv' := [(2, .int (x2 + (1 : Int32))), (0, .ref q_p1), (1, .int x1), (3, .int x3)]) hx hb dJ7_fill_53178_14 hl (k := 2) rfl rfl (by decide) rfl (fun ls hl => ?_)
        refine lv_goto (tgt := 5) hx hb dJ7_fill_53178_17 (by decide) ?_
        exact ih x3 (x2 + (1 : Int32)) (upd vp1 x2.toNatClampNeg x1) res5 (hnext _ (osi hf).symm) _ _ ls hP hD hS (lv_sub hl [1, 2, 0, 3] rfl) KR
  refine lv_iconst (v := (0 : Int32)) hx hb dJ7_fill_53178_0 (by decide) ?_
  refine lv_istore_n (lv' := [(2, .int (0 : Int32)), (0, .ref q_p1), (1, .int x1)]) hx hb dJ7_fill_53178_1 rfl hl (by decide) rfl (fun ls hl => ?_)
  refine lv_aload_n hx hb dJ7_fill_53178_2 rfl (lv_at hl 1 rfl) ?_
  refine va_alen (v := (Int32.ofNat np1)) hx hb hK.1 hP 0 0 rfl rfl rfl dJ7_fill_53178_3 ?_
  refine lv_istore_n (lv' := [(3, .int (Int32.ofNat np1)), (2, .int (0 : Int32)), (0, .ref q_p1), (1, .int x1)]) hx hb dJ7_fill_53178_4 rfl hl (by decide) rfl (fun ls hl => ?_)
  obtain ⟨e3, hp3, hf⟩ := ob hf
  exact hL5 N (Int32.ofNat np1) (0 : Int32) vp1 e3 hp3 _ _ ls hP hD hS (lv_sub hl [2, 3, 1, 0] rfl) (fun q9 h9 => by subst h9; exact osi hf)
def f_X6_isName (x0 : Int32) : Option (Int32) := (if x0 < 0 then some (0 : Int32) else (if (5 : Int32) ≤ x0 then some (0 : Int32) else some (1 : Int32)))
def w_X6_isName (cI cJ cB : ClassId) : va_W := []
set_option maxHeartbeats 4000000 in
set_option maxRecDepth 100000 in
theorem c_X6_isName (l : Launch) (dC : Nat → ClassId) (dI : Nat → Nat → Nat) (cI cJ cB : ClassId) (x0 : Int32) {r : Int32} (hf : f_X6_isName x0 = some r) : Met l yX6_isName (Cond.code yX6_isName cX6_isName 1 (some .boolean) :: wsL_law) (kR 0) (va_Pc [.int x0] (pR (dC, dI) cI cJ cB (w_X6_isName cI cJ cB ))) (qRi r) 0 0 (fun _ => False) := by
  refine k_ro (cc := cX6_isName) (n := 1) (ret := (some .boolean)) (by decide) (Nat.le_of_ble_eq_true rfl) ?_
  intro p e s m args below meth c ls hx hb hr hml hts hown hlocks hK hP hl
  have hP : va_P (dC, dI) classes [] s.heap := hP
  have hG : ∀ w ∈ wsL_law, w.before args s = true := fun w h => hts w (List.mem_cons_of_mem _ h)
  have hown : s.vm.findClass RX6 = some m.cls := hown
  have hl : lv_has ls 1 [(0, .int x0)] := hl
  unfold f_X6_isName at hf
  refine lv_iload_n hx hb dX6_isName_0 rfl (lv_at hl 0 rfl) ?_
  refine lv_if_lt (tgt := 13) hx hb dX6_isName_1 (by decide) (fun c1 => ?_) (fun c1 => ?_)
  · replace hf := ot hf c1
    refine lv_iconst (v := (0 : Int32)) hx hb dX6_isName_13 (by decide) ?_
    have hf := osi hf
    exact x_zR hx hb hr hlocks rfl hf dX6_isName_14
  · replace hf := oe hf c1
    refine lv_iload_n hx hb dX6_isName_4 rfl (lv_at hl 0 rfl) ?_
    refine lv_iconst (v := (5 : Int32)) hx hb dX6_isName_5 (by decide) ?_
    refine lv_icmp_ge (tgt := 13) hx hb dX6_isName_6 (by decide) (fun c2 => ?_) (fun c2 => ?_)
    · replace hf := ot hf c2
      refine lv_iconst (v := (0 : Int32)) hx hb dX6_isName_13 (by decide) ?_
      have hf := osi hf
      exact x_zR hx hb hr hlocks rfl hf dX6_isName_14
    · replace hf := oe hf c2
      refine lv_iconst (v := (1 : Int32)) hx hb dX6_isName_9 (by decide) ?_
      refine lv_goto (tgt := 14) hx hb dX6_isName_10 (by decide) ?_
      have hf := osi hf
      exact x_zR hx hb hr hlocks rfl hf dX6_isName_14
def f_X6_isDay (x0 : Int32) : Option (Int32) := (if x0 < 0 then some (0 : Int32) else (if (8 : Int32) ≤ x0 then some (0 : Int32) else some (1 : Int32)))
def w_X6_isDay (cI cJ cB : ClassId) : va_W := []
set_option maxHeartbeats 4000000 in
set_option maxRecDepth 100000 in
theorem c_X6_isDay (l : Launch) (dC : Nat → ClassId) (dI : Nat → Nat → Nat) (cI cJ cB : ClassId) (x0 : Int32) {r : Int32} (hf : f_X6_isDay x0 = some r) : Met l yX6_isDay (Cond.code yX6_isDay cX6_isDay 1 (some .boolean) :: wsL_law) (kR 0) (va_Pc [.int x0] (pR (dC, dI) cI cJ cB (w_X6_isDay cI cJ cB ))) (qRi r) 0 0 (fun _ => False) := by
  refine k_ro (cc := cX6_isDay) (n := 1) (ret := (some .boolean)) (by decide) (Nat.le_of_ble_eq_true rfl) ?_
  intro p e s m args below meth c ls hx hb hr hml hts hown hlocks hK hP hl
  have hP : va_P (dC, dI) classes [] s.heap := hP
  have hG : ∀ w ∈ wsL_law, w.before args s = true := fun w h => hts w (List.mem_cons_of_mem _ h)
  have hown : s.vm.findClass RX6 = some m.cls := hown
  have hl : lv_has ls 1 [(0, .int x0)] := hl
  unfold f_X6_isDay at hf
  refine lv_iload_n hx hb dX6_isDay_0 rfl (lv_at hl 0 rfl) ?_
  refine lv_if_lt (tgt := 14) hx hb dX6_isDay_1 (by decide) (fun c1 => ?_) (fun c1 => ?_)
  · replace hf := ot hf c1
    refine lv_iconst (v := (0 : Int32)) hx hb dX6_isDay_14 (by decide) ?_
    have hf := osi hf
    exact x_zR hx hb hr hlocks rfl hf dX6_isDay_15
  · replace hf := oe hf c1
    refine lv_iload_n hx hb dX6_isDay_4 rfl (lv_at hl 0 rfl) ?_
    refine lv_bipush (v := (8 : Int32)) hx hb dX6_isDay_5 (by decide) ?_
    refine lv_icmp_ge (tgt := 14) hx hb dX6_isDay_7 (by decide) (fun c2 => ?_) (fun c2 => ?_)
    · replace hf := ot hf c2
      refine lv_iconst (v := (0 : Int32)) hx hb dX6_isDay_14 (by decide) ?_
      have hf := osi hf
      exact x_zR hx hb hr hlocks rfl hf dX6_isDay_15
    · replace hf := oe hf c2
      refine lv_iconst (v := (1 : Int32)) hx hb dX6_isDay_10 (by decide) ?_
      refine lv_goto (tgt := 15) hx hb dX6_isDay_11 (by decide) ?_
      have hf := osi hf
      exact x_zR hx hb hr hlocks rfl hf dX6_isDay_15
def f_X6_orNone (x0 : Int32) : Option (Int32) := (if x0 = (-1 : Int32) then some (-4 : Int32) else some x0)
def w_X6_orNone (cI cJ cB : ClassId) : va_W := []
set_option maxHeartbeats 4000000 in
set_option maxRecDepth 100000 in
theorem c_X6_orNone (l : Launch) (dC : Nat → ClassId) (dI : Nat → Nat → Nat) (cI cJ cB : ClassId) (x0 : Int32) {r : Int32} (hf : f_X6_orNone x0 = some r) : Met l yX6_orNone (Cond.code yX6_orNone cX6_orNone 1 (some .int) :: wsL_law) (kR 0) (va_Pc [.int x0] (pR (dC, dI) cI cJ cB (w_X6_orNone cI cJ cB ))) (qRi r) 0 0 (fun _ => False) := by
  refine k_ro (cc := cX6_orNone) (n := 1) (ret := (some .int)) (by decide) (Nat.le_of_ble_eq_true rfl) ?_
  intro p e s m args below meth c ls hx hb hr hml hts hown hlocks hK hP hl
  have hP : va_P (dC, dI) classes [] s.heap := hP
  have hG : ∀ w ∈ wsL_law, w.before args s = true := fun w h => hts w (List.mem_cons_of_mem _ h)
  have hown : s.vm.findClass RX6 = some m.cls := hown
  have hl : lv_has ls 1 [(0, .int x0)] := hl
  unfold f_X6_orNone at hf
  refine lv_iload_n hx hb dX6_orNone_0 rfl (lv_at hl 0 rfl) ?_
  refine lv_iconst (v := (-1 : Int32)) hx hb dX6_orNone_1 (by decide) ?_
  refine lv_icmp_ne (tgt := 10) hx hb dX6_orNone_2 (by decide) (fun c1 => ?_) (fun c1 => ?_)
  · replace hf := oe hf c1
    refine lv_iload_n hx hb dX6_orNone_10 rfl (lv_at hl 0 rfl) ?_
    have hf := osi hf
    exact x_iR hx hb hr hlocks hf dX6_orNone_11
  · replace hf := ot hf c1
    refine lv_bipush (v := (-4 : Int32)) hx hb dX6_orNone_5 (by decide) ?_
    refine lv_goto (tgt := 11) hx hb dX6_orNone_7 (by decide) ?_
    have hf := osi hf
    exact x_iR hx hb hr hlocks hf dX6_orNone_11
def f_X6_isLotValue (x0 : Int32) : Option (Int32) := (if x0 < 0 then some (0 : Int32) else (if (4 : Int32) ≤ x0 then some (0 : Int32) else some (1 : Int32)))
def w_X6_isLotValue (cI cJ cB : ClassId) : va_W := []
set_option maxHeartbeats 4000000 in
set_option maxRecDepth 100000 in
theorem c_X6_isLotValue (l : Launch) (dC : Nat → ClassId) (dI : Nat → Nat → Nat) (cI cJ cB : ClassId) (x0 : Int32) {r : Int32} (hf : f_X6_isLotValue x0 = some r) : Met l yX6_isLotValue (Cond.code yX6_isLotValue cX6_isLotValue 1 (some .boolean) :: wsL_law) (kR 0) (va_Pc [.int x0] (pR (dC, dI) cI cJ cB (w_X6_isLotValue cI cJ cB ))) (qRi r) 0 0 (fun _ => False) := by
  refine k_ro (cc := cX6_isLotValue) (n := 1) (ret := (some .boolean)) (by decide) (Nat.le_of_ble_eq_true rfl) ?_
  intro p e s m args below meth c ls hx hb hr hml hts hown hlocks hK hP hl
  have hP : va_P (dC, dI) classes [] s.heap := hP
  have hG : ∀ w ∈ wsL_law, w.before args s = true := fun w h => hts w (List.mem_cons_of_mem _ h)
  have hown : s.vm.findClass RX6 = some m.cls := hown
  have hl : lv_has ls 1 [(0, .int x0)] := hl
  unfold f_X6_isLotValue at hf
  refine lv_iload_n hx hb dX6_isLotValue_0 rfl (lv_at hl 0 rfl) ?_
  refine lv_if_lt (tgt := 13) hx hb dX6_isLotValue_1 (by decide) (fun c1 => ?_) (fun c1 => ?_)
  · replace hf := ot hf c1
    refine lv_iconst (v := (0 : Int32)) hx hb dX6_isLotValue_13 (by decide) ?_
    have hf := osi hf
    exact x_zR hx hb hr hlocks rfl hf dX6_isLotValue_14
  · replace hf := oe hf c1
    refine lv_iload_n hx hb dX6_isLotValue_4 rfl (lv_at hl 0 rfl) ?_
    refine lv_iconst (v := (4 : Int32)) hx hb dX6_isLotValue_5 (by decide) ?_
    refine lv_icmp_ge (tgt := 13) hx hb dX6_isLotValue_6 (by decide) (fun c2 => ?_) (fun c2 => ?_)
    · replace hf := ot hf c2
      refine lv_iconst (v := (0 : Int32)) hx hb dX6_isLotValue_13 (by decide) ?_
      have hf := osi hf
      exact x_zR hx hb hr hlocks rfl hf dX6_isLotValue_14
    · replace hf := oe hf c2
      refine lv_iconst (v := (1 : Int32)) hx hb dX6_isLotValue_9 (by decide) ?_
      refine lv_goto (tgt := 14) hx hb dX6_isLotValue_10 (by decide) ?_
      have hf := osi hf
      exact x_zR hx hb hr hlocks rfl hf dX6_isLotValue_14
