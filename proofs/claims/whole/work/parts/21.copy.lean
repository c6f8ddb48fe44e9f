-- ===== Arrays.copyOf to twice the length =====
def qWr (mk : Nat → va_W) (D : va_G) (A : Nat → Prop) : Array Value → State → Outcome → State → Prop := va_Qr (fun _ : Unit => True) (fun _ a t => va_P D classes (mk a) t.heap ∧ va_D A (mk a)) A
theorem cp_len {n : Nat} (h : n ≤ 16777216) : ((2 : Int32) * Int32.ofNat n).toNatClampNeg = 2 * n ∧ ¬ ((2 : Int32) * Int32.ofNat n) < 0 := by
  have e : ((2 : Int32) * Int32.ofNat n) = nI (2 * n) := by
    show (2 : Int32) * nI n = nI (2 * n)
    have : nI (2 * n) = nI n + nI n := by rw [nI_add]; congr 1; omega
    rw [this, ← Int32.two_mul]
  rw [e]
  exact ⟨nI_clamp (by omega), nI_pos (by omega)⟩
theorem cp_ne {n : Nat} (h0 : 0 < n) (h : n ≤ 16777216) : ¬ ((2 : Int32) * Int32.ofNat n) = Int32.ofNat n ∧ ¬ ((2 : Int32) * Int32.ofNat n) < Int32.ofNat n := by
  have e : ((2 : Int32) * Int32.ofNat n) = nI (2 * n) := by
    show (2 : Int32) * nI n = nI (2 * n)
    have : nI (2 * n) = nI n + nI n := by rw [nI_add]; congr 1; omega
    rw [this, ← Int32.two_mul]
  rw [e]
  refine ⟨fun q => ?_, nI_nlt (by omega) (by omega)⟩
  have := (nI_eq (by omega) (by omega)).mp q
  omega
set_option maxHeartbeats 4000000 in
set_option maxRecDepth 100000 in
theorem c_copyI (l : Launch) (dC : Nat → ClassId) (dI : Nat → Nat → Nat) (cI cJ cB : ClassId) (q1 n : Nat) (f : Nat → Int32) (sz : Nat) (h0 : 0 < n) (hn : n ≤ 16777216) : Met l yJ7_copyOf_59c91 (Cond.code yJ7_copyOf_59c91 cJ7_copyOf_59c91 3 (some (.array .int)) :: wsL_law) (kRa 1 1 (2 * n)) (va_Pc [.ref q1, .int ((2 : Int32) * Int32.ofNat n)] (pW (dC, dI) cI cJ cB [(q1, .inl (cI, n, .inl f))] sz)) (qWr (fun a => [(q1, .inl (cI, n, .inl f)), (a, .inl (cI, 2 * n, .inl (va_cpy f (fun _ => 0) 0 0 n)))]) (dC, dI) (va_A [(q1, .inl (cI, n, .inl f))] sz)) 1 (2 * n) (va_A [(q1, .inl (cI, n, .inl f))] sz) := by
  refine k_wr (Qc := fun A => qWr (fun a => [(q1, .inl (cI, n, .inl f)), (a, .inl (cI, 2 * n, .inl (va_cpy f (fun _ => 0) 0 0 n)))]) (dC, dI) A) (cc := cJ7_copyOf_59c91) (n := 3) (ret := some (.array .int)) (by decide) (Nat.le_of_ble_eq_true rfl) ?_
  intro p e s m args below meth c ls A hx hb hr hml hts hown hlocks hnm hA hK hP hD hS hl
  have hG : ∀ w ∈ wsL_law, w.before args s = true := fun w h => hts w (List.mem_cons_of_mem _ h)
  have hown : s.vm.findClass RJ7 = some m.cls := hown
  obtain ⟨e1, e2⟩ := cp_len hn
  obtain ⟨e3, e4⟩ := cp_ne h0 hn
  generalize hX : (2 : Int32) * Int32.ofNat n = X at *
  have hl : lv_has ls 3 [(0, .ref q1), (1, .int X)] := hl
  have e5 : (Int32.ofNat n).toNatClampNeg = n := nI_clamp (by omega)
  have e6 : ¬ Int32.ofNat n < 0 := nI_pos (n := n) (by omega)
  refine lv_iload_n hx hb dJ7_copyOf_59c91_0 rfl (lv_at hl 1 rfl) ?_
  refine lv_aload_n hx hb dJ7_copyOf_59c91_1 rfl (lv_at hl 0 rfl) ?_
  refine va_alen (v := Int32.ofNat n) hx hb hK.1 hP 0 0 rfl rfl rfl dJ7_copyOf_59c91_2 ?_
  refine lv_icmp_ne (tgt := 14) hx hb dJ7_copyOf_59c91_3 (by decide) (fun _ => ?_) (fun q => absurd q e3)
  refine lv_iload_n hx hb dJ7_copyOf_59c91_14 rfl (lv_at hl 1 rfl) ?_
  refine p_newI (N' := 2 * n) hx hb (hG _ mw_46) hK hP hD hS hA e2 e1 (by omega) (by show 0 + 1 ≤ 1; omega) (by show 0 + 2 * n ≤ 2 * n; omega) dJ7_copyOf_59c91_15 (fun a H hP hD hS => ?_)
  have hP : va_P (dC, dI) classes [(q1, .inl (cI, n, .inl f)), (a, .inl (cI, 2 * n, .inl (fun _ => 0)))] H := hP
  have hD : va_D A [(q1, .inl (cI, n, .inl f)), (a, .inl (cI, 2 * n, .inl (fun _ => 0)))] := hD
  refine lv_astore_n (lv' := [(2, .ref a), (0, .ref q1), (1, .int X)]) hx hb dJ7_copyOf_59c91_17 rfl hl (by decide) rfl (fun ls hl => ?_)
  refine lv_aload_n hx hb dJ7_copyOf_59c91_18 rfl (lv_at hl 1 rfl) ?_
  refine lv_iconst (v := (0 : Int32)) hx hb dJ7_copyOf_59c91_19 (by decide) ?_
  refine lv_aload_n hx hb dJ7_copyOf_59c91_20 rfl (lv_at hl 0 rfl) ?_
  refine lv_iconst (v := (0 : Int32)) hx hb dJ7_copyOf_59c91_21 (by decide) ?_
  refine lv_aload_n hx hb dJ7_copyOf_59c91_22 rfl (lv_at hl 1 rfl) ?_
  refine va_alen (v := Int32.ofNat n) hx hb hK.1 hP 0 0 rfl rfl rfl dJ7_copyOf_59c91_23 ?_
  refine lv_iload_n hx hb dJ7_copyOf_59c91_24 rfl (lv_at hl 2 rfl) ?_
  refine va_mmin hx hb (hml.trans hl.1.symm) hown (hG _ mw_741) (hG _ mw_194) (hG _ mw_195) (hG _ mw_196) (Nat.le_of_ble_eq_true rfl) (Nat.le_of_ble_eq_true rfl) (by show 0 + 1 ≤ 1; omega) (by show 0 + 2 * n ≤ 2 * n; omega) dJ7_copyOf_59c91_25 ?_
  rw [if_neg e4]
  refine va_copyi hx hb (hml.trans hl.1.symm) hown (hG _ mw_742) (hG _ mw_235) (hG _ mw_236) (hG _ mw_237) hK.1 hP hD hS 0 1 0 0 rfl rfl rfl rfl rfl (by decide) (by decide) e6 (by rw [e5]; show 0 + n ≤ n; omega) (by rw [e5]; show 0 + n ≤ 2 * n; omega) (fun _ _ => rfl) (Nat.le_of_ble_eq_true rfl) (Nat.le_of_ble_eq_true rfl) dJ7_copyOf_59c91_28 (fun H locs hP hD hS => ?_)
  rw [e5] at hP hD
  refine lv_aload_n hx hb dJ7_copyOf_59c91_31 rfl (lv_at hl 0 rfl) ?_
  refine W.widen (k := 1) (n := 2 * n) (by omega) (by omega) ?_
  exact W.aret hx hb hr (Or.inr ⟨_, rfl⟩) (Or.inr ⟨_, rfl⟩) (fun t ht _ => ⟨⟨(), a, rfl, trivial, by rw [ht]; exact hP, hD⟩, hS.F ht⟩) hS.2.2 dJ7_copyOf_59c91_32 hlocks
set_option maxHeartbeats 4000000 in
set_option maxRecDepth 100000 in
theorem c_copyJ (l : Launch) (dC : Nat → ClassId) (dI : Nat → Nat → Nat) (cI cJ cB : ClassId) (q1 n : Nat) (f : Nat → Int64) (sz : Nat) (h0 : 0 < n) (hn : n ≤ 16777216) : Met l yJ7_copyOf_c38d5 (Cond.code yJ7_copyOf_c38d5 cJ7_copyOf_c38d5 3 (some (.array .long)) :: wsL_law) (kRa 1 1 (2 * n)) (va_Pc [.ref q1, .int ((2 : Int32) * Int32.ofNat n)] (pW (dC, dI) cI cJ cB [(q1, .inl (cJ, n, .inr (.inl f)))] sz)) (qWr (fun a => [(q1, .inl (cJ, n, .inr (.inl f))), (a, .inl (cJ, 2 * n, .inr (.inl (va_cpy f (fun _ => 0) 0 0 n))))]) (dC, dI) (va_A [(q1, .inl (cJ, n, .inr (.inl f)))] sz)) 1 (2 * n) (va_A [(q1, .inl (cJ, n, .inr (.inl f)))] sz) := by
  refine k_wr (Qc := fun A => qWr (fun a => [(q1, .inl (cJ, n, .inr (.inl f))), (a, .inl (cJ, 2 * n, .inr (.inl (va_cpy f (fun _ => 0) 0 0 n))))]) (dC, dI) A) (cc := cJ7_copyOf_c38d5) (n := 3) (ret := some (.array .long)) (by decide) (Nat.le_of_ble_eq_true rfl) ?_
  intro p e s m args below meth c ls A hx hb hr hml hts hown hlocks hnm hA hK hP hD hS hl
  have hG : ∀ w ∈ wsL_law, w.before args s = true := fun w h => hts w (List.mem_cons_of_mem _ h)
  have hown : s.vm.findClass RJ7 = some m.cls := hown
  obtain ⟨e1, e2⟩ := cp_len hn
  obtain ⟨e3, e4⟩ := cp_ne h0 hn
  generalize hX : (2 : Int32) * Int32.ofNat n = X at *
  have hl : lv_has ls 3 [(0, .ref q1), (1, .int X)] := hl
  have e5 : (Int32.ofNat n).toNatClampNeg = n := nI_clamp (by omega)
  have e6 : ¬ Int32.ofNat n < 0 := nI_pos (n := n) (by omega)
  refine lv_iload_n hx hb dJ7_copyOf_c38d5_0 rfl (lv_at hl 1 rfl) ?_
  refine lv_aload_n hx hb dJ7_copyOf_c38d5_1 rfl (lv_at hl 0 rfl) ?_
  refine va_alen (v := Int32.ofNat n) hx hb hK.1 hP 0 1 rfl rfl rfl dJ7_copyOf_c38d5_2 ?_
  refine lv_icmp_ne (tgt := 14) hx hb dJ7_copyOf_c38d5_3 (by decide) (fun _ => ?_) (fun q => absurd q e3)
  refine lv_iload_n hx hb dJ7_copyOf_c38d5_14 rfl (lv_at hl 1 rfl) ?_
  refine p_newJ (N' := 2 * n) hx hb (hG _ mw_96) hK hP hD hS hA e2 e1 (by omega) (by show 0 + 1 ≤ 1; omega) (by show 0 + 2 * n ≤ 2 * n; omega) dJ7_copyOf_c38d5_15 (fun a H hP hD hS => ?_)
  have hP : va_P (dC, dI) classes [(q1, .inl (cJ, n, .inr (.inl f))), (a, .inl (cJ, 2 * n, .inr (.inl (fun _ => 0))))] H := hP
  have hD : va_D A [(q1, .inl (cJ, n, .inr (.inl f))), (a, .inl (cJ, 2 * n, .inr (.inl (fun _ => 0))))] := hD
  refine lv_astore_n (lv' := [(2, .ref a), (0, .ref q1), (1, .int X)]) hx hb dJ7_copyOf_c38d5_17 rfl hl (by decide) rfl (fun ls hl => ?_)
  refine lv_aload_n hx hb dJ7_copyOf_c38d5_18 rfl (lv_at hl 1 rfl) ?_
  refine lv_iconst (v := (0 : Int32)) hx hb dJ7_copyOf_c38d5_19 (by decide) ?_
  refine lv_aload_n hx hb dJ7_copyOf_c38d5_20 rfl (lv_at hl 0 rfl) ?_
  refine lv_iconst (v := (0 : Int32)) hx hb dJ7_copyOf_c38d5_21 (by decide) ?_
  refine lv_aload_n hx hb dJ7_copyOf_c38d5_22 rfl (lv_at hl 1 rfl) ?_
  refine va_alen (v := Int32.ofNat n) hx hb hK.1 hP 0 1 rfl rfl rfl dJ7_copyOf_c38d5_23 ?_
  refine lv_iload_n hx hb dJ7_copyOf_c38d5_24 rfl (lv_at hl 2 rfl) ?_
  refine va_mmin hx hb (hml.trans hl.1.symm) hown (hG _ mw_741) (hG _ mw_194) (hG _ mw_195) (hG _ mw_196) (Nat.le_of_ble_eq_true rfl) (Nat.le_of_ble_eq_true rfl) (by show 0 + 1 ≤ 1; omega) (by show 0 + 2 * n ≤ 2 * n; omega) dJ7_copyOf_c38d5_25 ?_
  rw [if_neg e4]
  refine va_copyl hx hb (hml.trans hl.1.symm) hown (hG _ mw_742) (hG _ mw_235) (hG _ mw_236) (hG _ mw_237) hK.1 hP hD hS 0 1 1 1 rfl rfl rfl rfl rfl (by decide) (by decide) e6 (by rw [e5]; show 0 + n ≤ n; omega) (by rw [e5]; show 0 + n ≤ 2 * n; omega) (fun _ _ => rfl) (Nat.le_of_ble_eq_true rfl) (Nat.le_of_ble_eq_true rfl) dJ7_copyOf_c38d5_28 (fun H locs hP hD hS => ?_)
  rw [e5] at hP hD
  refine lv_aload_n hx hb dJ7_copyOf_c38d5_31 rfl (lv_at hl 0 rfl) ?_
  refine W.widen (k := 1) (n := 2 * n) (by omega) (by omega) ?_
  exact W.aret hx hb hr (Or.inr ⟨_, rfl⟩) (Or.inr ⟨_, rfl⟩) (fun t ht _ => ⟨⟨(), a, rfl, trivial, by rw [ht]; exact hP, hD⟩, hS.F ht⟩) hS.2.2 dJ7_copyOf_c38d5_32 hlocks
section KCR
variable {p : Program} {l : Launch} {e : Env} {R : Room} {s : State} {m : MethodId} {args : Array Value} {below : List Frame} {meth : Method} {c : Code} {H : Heap} {locs : List Loc} {cells slots : Nat} {Q : State → Prop} {cc bytes : ByteArray} {pc nL maxL index n : Nat} {ls : Array Slot} {D : va_G} {cI cJ cB : ClassId} {A : Nat → Prop} {Ts : List Cond} {own : String} {y : MethodName} {ret : Option FieldType} {rm : Room} {ws wc wr : va_W} {As rest st0 : List Value} {mc ms : Nat}
theorem k_SWr {mk : Nat → va_W} (F : CallFix p m c cc nL s args Ts own) (hK : kk D cI cJ cB s) (hP : va_P D classes ws H) (hD : va_D A ws) (hS : va_S A s.heap H locs) (hA : ∀ q : Nat, s.heap.size ≤ q → A q) (isC isR : List Nat) (hC : isC.map (fun i => ws[i]?) = wc.map some) (hR : isR.map (fun i => ws[i]?) = wr.map some) (hnC : va_nd isC = true) (hnR : va_nd isR = true) (hdis : ∀ i ∈ isR, i ∉ isC)
    (hM : Met l y (Cond.code y bytes maxL ret :: wsL_law) rm (va_Pc As (pW D cI cJ cB wc H.size)) (qWr mk D (va_A wc H.size)) mc ms (va_A wc H.size)) (cw : CallB R s args own index y bytes maxL ret (Cond.code y bytes maxL ret :: wsL_law) rm mc ms n ∧ (Cond.static y).before args s = true)
    (hn : As.length = n) (hls : ls.size = nL) (hst : st0 = As.reverse ++ rest) (hrm : (rest.map fun v => v.category).sum ≤ 8) (hdg : decode cc pc = .ok (.invokestatic index, 3)) (hcs : cells + mc ≤ R.cells ∧ slots + ms ≤ R.slots)
    (k : ∀ (a : Nat) (H1 : Heap) (locs1 : List Loc), va_P D classes (wr ++ mk a) H1 → va_D A (wr ++ mk a) → va_S A s.heap H1 locs1 → W p l e R s m args below meth c H1 locs1 (cells + mc) (slots + ms) Q (F0 m (pc + 3) ls (.ref a :: rest))) : W p l e R s m args below meth c H locs cells slots Q (F0 m pc ls st0) := by
  have hPc := k_part hP isC hC
  have hDc := hD.sub isC hnC hC
  have hFc := va_free hD hS hA isC hC
  refine va_callr (va_runS F hM cw ⟨pW.blind, fun U hU hW => ⟨rfl, by rw [hU], hK.warm hW, by rw [hU]; exact hPc, hDc.weaken (fun _ _ _ _ => trivial)⟩⟩ rfl hn hls hst (lv_room hrm) hdg hcs) hS (fun q _ h => hFc q h) hFc (fun u a t H1 locs1 ht hvm hw hB hz1 hk1 hS1 => ?_)
  obtain ⟨hP1, hD1⟩ := hB
  rw [ht] at hP1
  obtain ⟨hP2, hD2⟩ := va_join hP hD isC isR hC hR hnR hdis hk1 hFc hP1 hD1
  exact k a H1 locs1 hP2 hD2 hS1
end KCR
