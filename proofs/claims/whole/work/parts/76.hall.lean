def hOneP (h : Hl) (b : Nat) : Prop := 1 ≤ hMem h b ∧ hMem h b ≤ 20 ∧ hMov h b ≤ 4 ∧ 1 ≤ hSiz h b ∧ hSiz h b ≤ 5 ∧ (∀ i, i < hSiz h b → hOrd h b i < 5) ∧ (∀ i j, i < j → j < hSiz h b → hOrd h b i ≠ hOrd h b j) ∧ (hMov h b = 3 → hDig h b < 6) ∧ (hMov h b = 4 → 1 ≤ hDig h b ∧ hDig h b ≤ 3)
def pI (x : Nat) (h : Hl) (dq : Nat → Nat) (L : Nat) (cdp cme cmo cdi csi cor mme mmo mdi msi mor mdp : Nat → Int32) : Prop :=
  hB h = x ∧ (∀ b, b < x → hOneP h b) ∧ hLots h x = L ∧ L ≤ 2 ∧ tX h (nI x) cme cmo cdi csi cor ∧ tX h (nI x) mme mmo mdi msi mor ∧ (∀ b, b < x → hMov h b < 3 → mdi b = m4) ∧ (∀ b, b < x → hMov h b = 3 → cdp b = nI (dq b) ∧ mdp b = nI (dq b) ∧ dq b ≤ 80)
def hEx (h : Hl) (m mv d n : Nat) (o : Nat → Nat) : Hl := (hB h + 1, (fun b => if b = hB h then m else hMem h b), (fun b => if b = hB h then mv else hMov h b), (fun b => if b = hB h then d else hDig h b), (fun b => if b = hB h then n else hSiz h b), fun b i => if b = hB h then o i else hOrd h b i)
theorem tX_ex {h : Hl} {x m mv d n : Nat} {o : Nat → Nat} (hx : hB h = x) (h5 : ∀ b, b < x → hSiz h b ≤ 5) {me mo di si or me' mo' di' si' or' : Nat → Int32} (t : tX h (nI x) me mo di si or) (e1 : me' = upd me x (nI m)) (e2 : mo' = upd mo x (nI mv)) (e3 : mv = 3 ∨ mv = 4 → di' x = nI d) (e3' : ∀ b, b ≠ x → di' b = di b) (e4 : si' x = nI n) (e4' : ∀ b, b ≠ x → si' b = si b) (e5 : ∀ j, j < n → or' (5 * x + j) = nI (o j)) (e5' : ∀ i, (i < 5 * x ∨ 5 * x + 5 ≤ i) → or' i = or i) : tX (hEx h m mv d n o) (nI (x + 1)) me' mo' di' si' or' := by
  subst e1 e2
  refine ⟨by show nI (x + 1) = nI (hB h + 1); rw [hx], fun b hb => ?_⟩
  have hb : b < hB h + 1 := hb
  show upd me x (nI m) b = nI (if b = hB h then m else hMem h b) ∧ upd mo x (nI mv) b = nI (if b = hB h then mv else hMov h b) ∧ ((if b = hB h then mv else hMov h b) = 3 ∨ (if b = hB h then mv else hMov h b) = 4 → di' b = nI (if b = hB h then d else hDig h b)) ∧ si' b = nI (if b = hB h then n else hSiz h b) ∧ ∀ i, i < (if b = hB h then n else hSiz h b) → or' (5 * b + i) = nI (if b = hB h then o i else hOrd h b i)
  rw [hx]
  by_cases c : b = x
  · subst c
    rw [if_pos rfl, if_pos rfl, if_pos rfl, if_pos rfl, pk_us, pk_us]
    refine ⟨rfl, rfl, e3, e4, fun i hi => ?_⟩
    rw [if_pos rfl]; exact e5 i hi
  · rw [if_neg c, if_neg c, if_neg c, if_neg c, pk_un c, pk_un c]
    obtain ⟨a1, a2, a3, a4, a5⟩ := t.2 b (by omega)
    refine ⟨a1, a2, fun q => (e3' b c).trans (a3 q), (e4' b c).trans a4, fun i hi => ?_⟩
    rw [if_neg c]
    have := h5 b (by omega)
    exact (e5' _ (by omega)).trans (a5 i hi)
theorem sm_lots {h : Hl} {m mv d n : Nat} {o : Nat → Nat} : ∀ k, k ≤ hB h → hLots (hEx h m mv d n o) k = hLots h k := fun k hk => sm_congr k (fun b hb => by
  show (if (if b = hB h then mv else hMov h b) = 4 then 1 else 0) = _
  rw [if_neg (show ¬ b = hB h by omega)])
abbrev RcT : Type := Int32 × Int32 × Int32 × (Nat → Int32) × Int32 × (Nat → Int32) × (Nat → Int32) × (Nat → Int32) × (Nat → Int32) × (Nat → Int32)
abbrev RhT : Type := Int32 × Int32 × Int32 × (Nat → Int32) × (Nat → Int32) × (Nat → Int32) × (Nat → Int32) × (Nat → Int32) × (Nat → Int32)
abbrev RsT : Type := Int32 × Int32 × Int32 × Int32 × (Nat → Int32) × (Nat → Int32) × (Nat → Int32) × (Nat → Int32) × (Nat → Int32) × (Nat → Int32)
theorem clause_both {g : Nat → Nat} {T : Nat} {v w : Nat → Int32} (t : tOK g T v) (t2 : tOK g T w) {N : Nat} (hN : 200000 ≤ N) {x a a' L : Nat} (hx : x < 6) (ha : a ≤ T) (ha' : a' ≤ T) (haa : sk g T a = sk g T a') {h : Hl} {dq : Nat → Nat} {cdp cme cmo cdi csi cor mme mmo mdi msi mor mdp : Nat → Int32} (P : pI x h dq L cdp cme cmo cdi csi cor mme mmo mdi msi mor mdp) (rb : Int32) :
    (∃ (aC L' : Nat) (h' : Hl) (dq' : Nat → Nat) (cdp' cme' cmo' cdi' csi' cor' mme' mmo' mdi' msi' mor' mdp' : Nat → Int32), aC ≤ T ∧ pI (x + 1) h' dq' L' cdp' cme' cmo' cdi' csi' cor' mme' mmo' mdi' msi' mor' mdp' ∧
      f_X4_readClause N (nI T) (nI a) (nI L) v cdp (nI x) cme cmo cdi csi cor = some (nI 1, nI aC, nI L', cdp', nI (x + 1), cme', cmo', cdi', csi', cor') ∧
      f_X7_readHall_B9 N (nI T) w (nI L) (nI x) (nI a') rb mme mmo mdi msi mor mdp = (if nI 0 ≤ chI g T (sk g T aC) then (if chI g T (sk g T aC) = nI 59 then (if x = 5 then some (Sum.inr (nI 0, nI (sk g T aC), nI (x + 1), mme', mmo', mdi', msi', mor', mdp')) else some (Sum.inl (nI L', nI (x + 1), nI (sk g T aC + 1), nI (x + 1), mme', mmo', mdi', msi', mor', mdp'))) else some (Sum.inr (nI 0, nI (sk g T aC), nI (x + 1), mme', mmo', mdi', msi', mor', mdp'))) else some (Sum.inr (nI 1, nI (sk g T aC), nI (x + 1), mme', mmo', mdi', msi', mor', mdp')))) ∨
    (∃ (f : Nat) (u : RcT) (z : RhT), f ≤ T ∧ f_X4_readClause N (nI T) (nI a) (nI L) v cdp (nI x) cme cmo cdi csi cor = some u ∧ f_X7_readHall_B9 N (nI T) w (nI L) (nI x) (nI a') rb mme mmo mdi msi mor mdp = some (Sum.inr z) ∧ u.1 = nI 0 ∧ u.2.1 = nI f ∧ z.1 = nI 0 ∧ z.2.1 = nI f) := by
  have hT := t.1
  obtain ⟨p1, p2, p3, p4, p5, p6, p7, p8⟩ := P
  have hl := sk_le (g := g) ha
  rcases num_both t t2 hN ha ha' haa hx cme with ⟨m, e, m1', m2', he, A1, A2⟩ | ⟨z, A1, A2⟩
  · rcases move_both t t2 hN he hx p4 cdp cmo cdi mmo mdi mdp with ⟨mv, d, q, b, dp', cdi', mdi', mdp', b1, b2, b3, b4, b5, B1, B2, b6, b7, b8⟩ | ⟨f, u, z, b1, B1, B2, b2, b3, b4, b5⟩
    · have hs := sk_le (g := g) b4
      have S := x_sign t hN b4
      have S2 := m_next t2 hN b4
      by_cases col : sk g T b < T ∧ g (sk g T b) = 58
      · have ch : chI g T (sk g T b) = nI 58 := by unfold chI; rw [if_pos col.1, col.2]
        rw [ch] at S S2
        obtain ⟨n', aC, o', csi', cor', mor', z, c1, c2, c3, c4, c5, c6, C1, C2, c7, c8, c9, c10, c11⟩ := names_both t t2 hN hx 5 0 (sk g T b + 1) (by omega) (by omega) (fun _ => 0) (upd csi x (nI 0)) cor mor N N (by omega) (by omega) (fun j hj => by omega) (fun i j h1 h2 => by omega) pk_us (fun j hj => by omega) (fun j hj => by omega)
        have z0 : bs (seen (fun _ => 0) 0) 5 = 0 := by decide
        rw [z0] at C2
        have R1 : f_X4_readNames N (nI T) (nI (sk g T b + 1)) v csi cor (nI x) = some (nI aC, csi', cor') := by
          unfold f_X4_readNames
          rw [q_cl (by omega), if_neg (by rw [q_0, q_lt (by omega) (by omega)]; omega)]
          exact b_run C1 rfl
        have R2 : f_X7_readOrder N (nI T) (nI (sk g T b + 1)) w msi mor (nI x) = some (if n' = 0 then nI 0 else nI 1, nI (sk g T aC), upd msi x (nI n'), mor') := by
          unfold f_X7_readOrder
          refine b_run C2 ?_
          by_cases n0 : n' = 0
          · simp (disch := omega) only [d_let, d_lef, d_ltt, d_ltf, d_eqt, d_eqf, ↓reduceIte, or_false, false_or, or_true, true_or, and_true, true_and, and_false, false_and, not_true_eq_false, not_false_eq_true, Bool.false_eq_true, Option.bind_some, q_ofNat, q_cl, q_lt, q_le, q_eq, nI_add, pk_mul, q_m1, q_m4, m1_lt, m1_le, m1_nlt, m1_nle, m1_ne, m1_ne2, m4_lt, m4_le, m4_nlt, m4_nle, m4_ne, m4_ne2, q_0, q_1, q_2, q_3, q_4, q_5, q_6, q_8, q_12, q_15, q_16, q_20, q_24, q_30, q_31, q_32, q_80, q_9, q_99, q_126, q_48, q_57, q_58, q_59, q_97, q_101, q_10, q_21, q_255, q_46656]
          · simp (disch := omega) only [d_let, d_lef, d_ltt, d_ltf, d_eqt, d_eqf, ↓reduceIte, or_false, false_or, or_true, true_or, and_true, true_and, and_false, false_and, not_true_eq_false, not_false_eq_true, Bool.false_eq_true, Option.bind_some, q_ofNat, q_cl, q_lt, q_le, q_eq, nI_add, pk_mul, q_m1, q_m4, m1_lt, m1_le, m1_nlt, m1_nle, m1_ne, m1_ne2, m4_lt, m4_le, m4_nlt, m4_nle, m4_ne, m4_ne2, q_0, q_1, q_2, q_3, q_4, q_5, q_6, q_8, q_12, q_15, q_16, q_20, q_24, q_30, q_31, q_32, q_80, q_9, q_99, q_126, q_48, q_57, q_58, q_59, q_97, q_101, q_10, q_21, q_255, q_46656]
        have hsc := sk_le (g := g) c3
        have S4 := m_next t2 hN hsc.2
        rw [sk_sk c3] at S4
        -- how the reference's turn goes on behind the colon
        have KM : f_X7_readHall_B9 N (nI T) w (nI L) (nI x) (nI a') rb mme mmo mdi msi mor mdp = f_X7_readHall_L80 N (nI T) rb w msi mor (nI x) (nI (sk g T b + 1)) (upd mme x (nI m)) (upd mmo x (nI mv)) mdi' mdp' (if mv = 4 then nI 1 else nI 0) (nI L) := by
          have um : upd mme x (nI m) x = nI m := pk_us
          have uo : upd mmo x (nI mv) x = nI mv := pk_us
          by_cases m4' : mv = 4
          · simp (disch := omega) only [f_X7_readHall_B9, d_let, d_lef, d_ltt, d_ltf, d_eqt, d_eqf, ↓reduceIte, or_false, false_or, or_true, true_or, and_true, true_and, and_false, false_and, not_true_eq_false, not_false_eq_true, Bool.false_eq_true, Option.bind_some, q_ofNat, q_cl, q_lt, q_le, q_eq, nI_add, pk_mul, q_m1, q_m4, m1_lt, m1_le, m1_nlt, m1_nle, m1_ne, m1_ne2, m4_lt, m4_le, m4_nlt, m4_nle, m4_ne, m4_ne2, q_0, q_1, q_2, q_3, q_4, q_5, q_6, q_8, q_12, q_15, q_16, q_20, q_24, q_30, q_31, q_32, q_80, q_9, q_99, q_126, q_48, q_57, q_58, q_59, q_97, q_101, q_10, q_21, q_255, q_46656, A2, um, B2, S2, uo]
          · simp (disch := omega) only [f_X7_readHall_B9, d_let, d_lef, d_ltt, d_ltf, d_eqt, d_eqf, ↓reduceIte, or_false, false_or, or_true, true_or, and_true, true_and, and_false, false_and, not_true_eq_false, not_false_eq_true, Bool.false_eq_true, Option.bind_some, q_ofNat, q_cl, q_lt, q_le, q_eq, nI_add, pk_mul, q_m1, q_m4, m1_lt, m1_le, m1_nlt, m1_nle, m1_ne, m1_ne2, m4_lt, m4_le, m4_nlt, m4_nle, m4_ne, m4_ne2, q_0, q_1, q_2, q_3, q_4, q_5, q_6, q_8, q_12, q_15, q_16, q_20, q_24, q_30, q_31, q_32, q_80, q_9, q_99, q_126, q_48, q_57, q_58, q_59, q_97, q_101, q_10, q_21, q_255, q_46656, A2, um, B2, S2, uo]
        by_cases n0 : n' = 0
        · right
          have ec : aC = sk g T (sk g T b + 1) := c4 n0 (by omega)
          have ec2 : sk g T aC = aC := by rw [ec]; exact sk_sk (by omega)
          rw [if_pos n0, ec2] at R2
          rw [n0] at c7
          refine ⟨aC, (nI 0, nI aC, nI (L + if mv = 4 then 1 else 0), dp', nI x, upd cme x (nI m), upd cmo x (nI mv), cdi', csi', cor'), (nI 0, nI aC, rb, upd mme x (nI m), upd mmo x (nI mv), mdi', upd msi x (nI n'), mor', mdp'), c3, ?_, ?_, rfl, rfl, rfl, rfl⟩
          · simp (disch := omega) only [f_X4_readClause, d_let, d_lef, d_ltt, d_ltf, d_eqt, d_eqf, ↓reduceIte, or_false, false_or, or_true, true_or, and_true, true_and, and_false, false_and, not_true_eq_false, not_false_eq_true, Bool.false_eq_true, Option.bind_some, q_ofNat, q_cl, q_lt, q_le, q_eq, nI_add, pk_mul, q_m1, q_m4, m1_lt, m1_le, m1_nlt, m1_nle, m1_ne, m1_ne2, m4_lt, m4_le, m4_nlt, m4_nle, m4_ne, m4_ne2, q_0, q_1, q_2, q_3, q_4, q_5, q_6, q_8, q_12, q_15, q_16, q_20, q_24, q_30, q_31, q_32, q_80, q_9, q_99, q_126, q_48, q_57, q_58, q_59, q_97, q_101, q_10, q_21, q_255, q_46656, A1, B1, S, R1, c7]
          · rw [KM]
            unfold f_X7_readHall_L80
            rw [R2]; rfl
        · left
          rw [if_neg n0] at R2
          refine ⟨aC, L + (if mv = 4 then 1 else 0), hEx h m mv d n' o', (fun b => if b = x then q else dq b), dp', upd cme x (nI m), upd cmo x (nI mv), cdi', csi', cor', upd mme x (nI m), upd mmo x (nI mv), mdi', upd msi x (nI n'), mor', mdp', c3, ?_, ?_, ?_⟩
          · have hs5 : ∀ b, b < x → hSiz h b ≤ 5 := fun b hb => (p2 b hb).2.2.2.2.1
            refine ⟨by show hB h + 1 = x + 1; rw [p1], fun b hb => ?_, ?_, ?_, ?_, ?_, ?_, ?_⟩
            · unfold hOneP
              show 1 ≤ (if b = hB h then m else hMem h b) ∧ (if b = hB h then m else hMem h b) ≤ 20 ∧ (if b = hB h then mv else hMov h b) ≤ 4 ∧ 1 ≤ (if b = hB h then n' else hSiz h b) ∧ (if b = hB h then n' else hSiz h b) ≤ 5 ∧ (∀ i, i < (if b = hB h then n' else hSiz h b) → (if b = hB h then o' i else hOrd h b i) < 5) ∧ (∀ i j, i < j → j < (if b = hB h then n' else hSiz h b) → (if b = hB h then o' i else hOrd h b i) ≠ (if b = hB h then o' j else hOrd h b j)) ∧ ((if b = hB h then mv else hMov h b) = 3 → (if b = hB h then d else hDig h b) < 6) ∧ ((if b = hB h then mv else hMov h b) = 4 → 1 ≤ (if b = hB h then d else hDig h b) ∧ (if b = hB h then d else hDig h b) ≤ 3)
              rw [p1]
              by_cases c : b = x
              · simp only [if_pos c]
                exact ⟨m1', m2', b1, by omega, c2, c5, c6, fun q => by have := b2 q; omega, fun q => ⟨(b3 q).1, (b3 q).2.1⟩⟩
              · simp only [if_neg c]
                exact p2 b (by omega)
            · show hLots (hEx h m mv d n' o') x + (if (if x = hB h then mv else hMov h x) = 4 then 1 else 0) = _
              rw [sm_lots x (by omega), p3, if_pos p1.symm]
            · by_cases c : mv = 4
              · rw [if_pos c]; have := (b3 c).2.2; omega
              · rw [if_neg c]; omega
            · exact tX_ex p1 hs5 p5 rfl rfl (fun q => (b6 q).1) (fun b hb => (b8 b hb).1) c7 (fun b hb => (c10 b hb).trans (pk_un hb)) c8 (fun i hi => (c11 i hi).1)
            · exact tX_ex p1 hs5 p6 rfl rfl (fun q => (b6 q).2.1) (fun b hb => (b8 b hb).2.1) pk_us (fun b hb => pk_un hb) c9 (fun i hi => (c11 i hi).2)
            · intro b hb hm3
              have hm3 : (if b = hB h then mv else hMov h b) < 3 := hm3
              rw [p1] at hm3
              by_cases c : b = x
              · rw [if_pos c] at hm3; rw [c]; exact b7 hm3
              · rw [if_neg c] at hm3; exact (b8 b c).2.1.trans (p7 b (by omega) hm3)
            · intro b hb hm3
              have hm3 : (if b = hB h then mv else hMov h b) = 3 := hm3
              rw [p1] at hm3
              show dp' b = nI (if b = x then q else dq b) ∧ mdp' b = nI (if b = x then q else dq b) ∧ (if b = x then q else dq b) ≤ 80
              by_cases c : b = x
              · rw [if_pos c] at hm3 ⊢; rw [c]; exact ⟨(b6 (Or.inl hm3)).2.2.1, (b6 (Or.inl hm3)).2.2.2, b5⟩
              · rw [if_neg c] at hm3 ⊢
                obtain ⟨r1, r2, r3⟩ := p8 b (by omega) hm3
                exact ⟨(b8 b c).2.2.1.trans r1, (b8 b c).2.2.2.trans r2, r3⟩
          · simp (disch := omega) only [f_X4_readClause, d_let, d_lef, d_ltt, d_ltf, d_eqt, d_eqf, ↓reduceIte, or_false, false_or, or_true, true_or, and_true, true_and, and_false, false_and, not_true_eq_false, not_false_eq_true, Bool.false_eq_true, Option.bind_some, q_ofNat, q_cl, q_lt, q_le, q_eq, nI_add, pk_mul, q_m1, q_m4, m1_lt, m1_le, m1_nlt, m1_nle, m1_ne, m1_ne2, m4_lt, m4_le, m4_nlt, m4_nle, m4_ne, m4_ne2, q_0, q_1, q_2, q_3, q_4, q_5, q_6, q_8, q_12, q_15, q_16, q_20, q_24, q_30, q_31, q_32, q_80, q_9, q_99, q_126, q_48, q_57, q_58, q_59, q_97, q_101, q_10, q_21, q_255, q_46656, A1, B1, S, R1, c7]
          · rw [KM]
            have eL : nI L + (if mv = 4 then nI 1 else nI 0) = nI (L + if mv = 4 then 1 else 0) := by split <;> rw [nI_add]
            unfold f_X7_readHall_L80
            rw [R2, Option.bind_some, if_neg (show ¬ nI 1 = 0 by decide), S4, Option.bind_some, eL, nI_1]
            by_cases x5 : x = 5
            · rw [if_pos x5, if_pos (show nI x = 5 by rw [x5]; rfl)]; rfl
            · rw [if_neg x5, if_neg (show ¬ nI x = 5 by rw [q_5, q_eq (by omega) (by omega)]; exact x5), nI_1]; rfl
      · right
        have ch : ¬ chI g T (sk g T b) = nI 58 := by
          rcases chI_v t (sk g T b) with ⟨hp, hch, h32, h126⟩ | ⟨hp, hch⟩
          · rw [hch, q_eq (by omega) (by omega)]; exact fun q => col ⟨hp, q⟩
          · rw [hch]; decide
        refine ⟨sk g T b, (nI 0, nI (sk g T b), nI (L + if mv = 4 then 1 else 0), dp', nI x, upd cme x (nI m), upd cmo x (nI mv), cdi', csi, cor), (nI 0, nI (sk g T b), rb, upd mme x (nI m), upd mmo x (nI mv), mdi', msi, mor, mdp'), hs.2, ?_, ?_, rfl, rfl, rfl, rfl⟩
        · simp (disch := omega) only [f_X4_readClause, d_let, d_lef, d_ltt, d_ltf, d_eqt, d_eqf, ↓reduceIte, or_false, false_or, or_true, true_or, and_true, true_and, and_false, false_and, not_true_eq_false, not_false_eq_true, Bool.false_eq_true, Option.bind_some, q_ofNat, q_cl, q_lt, q_le, q_eq, nI_add, pk_mul, q_m1, q_m4, m1_lt, m1_le, m1_nlt, m1_nle, m1_ne, m1_ne2, m4_lt, m4_le, m4_nlt, m4_nle, m4_ne, m4_ne2, q_0, q_1, q_2, q_3, q_4, q_5, q_6, q_8, q_12, q_15, q_16, q_20, q_24, q_30, q_31, q_32, q_80, q_9, q_99, q_126, q_48, q_57, q_58, q_59, q_97, q_101, q_10, q_21, q_255, q_46656, A1, B1, S, ch]
        · have um : upd mme x (nI m) x = nI m := pk_us
          simp (disch := omega) only [f_X7_readHall_B9, d_let, d_lef, d_ltt, d_ltf, d_eqt, d_eqf, ↓reduceIte, or_false, false_or, or_true, true_or, and_true, true_and, and_false, false_and, not_true_eq_false, not_false_eq_true, Bool.false_eq_true, Option.bind_some, q_ofNat, q_cl, q_lt, q_le, q_eq, nI_add, pk_mul, q_m1, q_m4, m1_lt, m1_le, m1_nlt, m1_nle, m1_ne, m1_ne2, m4_lt, m4_le, m4_nlt, m4_nle, m4_ne, m4_ne2, q_0, q_1, q_2, q_3, q_4, q_5, q_6, q_8, q_12, q_15, q_16, q_20, q_24, q_30, q_31, q_32, q_80, q_9, q_99, q_126, q_48, q_57, q_58, q_59, q_97, q_101, q_10, q_21, q_255, q_46656, A2, um, B2, S2, ch]
    · right
      refine ⟨f, (nI 0, nI f, u.2.2.1, u.2.2.2.1, nI x, upd cme x (nI m), u.2.2.2.2.1, u.2.2.2.2.2, csi, cor), (nI 0, nI f, rb, upd mme x (nI m), z.2.2.1, z.2.2.2.1, msi, mor, z.2.2.2.2), b1, ?_, ?_, rfl, rfl, rfl, rfl⟩
      · simp (disch := omega) only [f_X4_readClause, d_let, d_lef, d_ltt, d_ltf, d_eqt, d_eqf, ↓reduceIte, or_false, false_or, or_true, true_or, and_true, true_and, and_false, false_and, not_true_eq_false, not_false_eq_true, Bool.false_eq_true, Option.bind_some, q_ofNat, q_cl, q_lt, q_le, q_eq, nI_add, pk_mul, q_m1, q_m4, m1_lt, m1_le, m1_nlt, m1_nle, m1_ne, m1_ne2, m4_lt, m4_le, m4_nlt, m4_nle, m4_ne, m4_ne2, q_0, q_1, q_2, q_3, q_4, q_5, q_6, q_8, q_12, q_15, q_16, q_20, q_24, q_30, q_31, q_32, q_80, q_9, q_99, q_126, q_48, q_57, q_58, q_59, q_97, q_101, q_10, q_21, q_255, q_46656, A1, B1, b2, b3]
      · have um : upd mme x (nI m) x = nI m := pk_us
        simp (disch := omega) only [f_X7_readHall_B9, d_let, d_lef, d_ltt, d_ltf, d_eqt, d_eqf, ↓reduceIte, or_false, false_or, or_true, true_or, and_true, true_and, and_false, false_and, not_true_eq_false, not_false_eq_true, Bool.false_eq_true, Option.bind_some, q_ofNat, q_cl, q_lt, q_le, q_eq, nI_add, pk_mul, q_m1, q_m4, m1_lt, m1_le, m1_nlt, m1_nle, m1_ne, m1_ne2, m4_lt, m4_le, m4_nlt, m4_nle, m4_ne, m4_ne2, q_0, q_1, q_2, q_3, q_4, q_5, q_6, q_8, q_12, q_15, q_16, q_20, q_24, q_30, q_31, q_32, q_80, q_9, q_99, q_126, q_48, q_57, q_58, q_59, q_97, q_101, q_10, q_21, q_255, q_46656, A2, um, B2, b4, b5]
  · right
    refine ⟨sk g T a, (nI 0, nI (sk g T a), nI L, cdp, nI x, upd cme x z, cmo, cdi, csi, cor), (nI 0, nI (sk g T a), rb, upd mme x m1, mmo, mdi, msi, mor, mdp), hl.2, ?_, ?_, rfl, rfl, rfl, rfl⟩
    · simp (disch := omega) only [f_X4_readClause, d_let, d_lef, d_ltt, d_ltf, d_eqt, d_eqf, ↓reduceIte, or_false, false_or, or_true, true_or, and_true, true_and, and_false, false_and, not_true_eq_false, not_false_eq_true, Bool.false_eq_true, Option.bind_some, q_ofNat, q_cl, q_lt, q_le, q_eq, nI_add, pk_mul, q_m1, q_m4, m1_lt, m1_le, m1_nlt, m1_nle, m1_ne, m1_ne2, m4_lt, m4_le, m4_nlt, m4_nle, m4_ne, m4_ne2, q_0, q_1, q_2, q_3, q_4, q_5, q_6, q_8, q_12, q_15, q_16, q_20, q_24, q_30, q_31, q_32, q_80, q_9, q_99, q_126, q_48, q_57, q_58, q_59, q_97, q_101, q_10, q_21, q_255, q_46656, A1]
    · have um : upd mme x m1 x = m1 := pk_us
      simp (disch := omega) only [f_X7_readHall_B9, d_let, d_lef, d_ltt, d_ltf, d_eqt, d_eqf, ↓reduceIte, or_false, false_or, or_true, true_or, and_true, true_and, and_false, false_and, not_true_eq_false, not_false_eq_true, Bool.false_eq_true, Option.bind_some, q_ofNat, q_cl, q_lt, q_le, q_eq, nI_add, pk_mul, q_m1, q_m4, m1_lt, m1_le, m1_nlt, m1_nle, m1_ne, m1_ne2, m4_lt, m4_le, m4_nlt, m4_nle, m4_ne, m4_ne2, q_0, q_1, q_2, q_3, q_4, q_5, q_6, q_8, q_12, q_15, q_16, q_20, q_24, q_30, q_31, q_32, q_80, q_9, q_99, q_126, q_48, q_57, q_58, q_59, q_97, q_101, q_10, q_21, q_255, q_46656, A2, um]
-- all clauses
abbrev R23 : Type := Int32 × Int32 × Int32 × Int32 × (Nat → Int32) × Int32 × (Nat → Int32) × (Nat → Int32) × (Nat → Int32) × (Nat → Int32) × (Nat → Int32)
def cTail (N : Nat) (T : Nat) (v : Nat → Int32) (e7 : R23) : Option RcT := (if e7.1 = 0 then (f_X4_read_L76 e7.2.2.1 e7.2.2.2.1 e7.2.2.2.2.1 e7.2.2.2.2.2.1 e7.2.2.2.2.2.2.1 e7.2.2.2.2.2.2.2.1 e7.2.2.2.2.2.2.2.2.1 e7.2.2.2.2.2.2.2.2.2.1 e7.2.2.2.2.2.2.2.2.2.2) else ((f_X4_sign N (nI T) e7.2.2.1 v).bind (fun u9 => (if u9.1 = (-1 : Int32) then ((f_X4_answerOf N e7.2.2.2.2.1 e7.2.2.2.2.2.1 e7.2.2.2.2.2.2.2.1 e7.2.2.2.2.2.2.2.2.1).bind (fun u11 => some (u11, u9.2, e7.2.2.2.1, e7.2.2.2.2.1, e7.2.2.2.2.2.1, e7.2.2.2.2.2.2.1, e7.2.2.2.2.2.2.2.1, e7.2.2.2.2.2.2.2.2.1, e7.2.2.2.2.2.2.2.2.2.1, e7.2.2.2.2.2.2.2.2.2.2))) else (f_X4_read_L76 u9.2 e7.2.2.2.1 e7.2.2.2.2.1 e7.2.2.2.2.2.1 e7.2.2.2.2.2.2.1 e7.2.2.2.2.2.2.2.1 e7.2.2.2.2.2.2.2.2.1 e7.2.2.2.2.2.2.2.2.2.1 e7.2.2.2.2.2.2.2.2.2.2)))))
def cBody (N T : Nat) (v : Nat → Int32) : R23 → Option (R23 ⊕ R23) := fun s => f_X4_read_B23 N (nI T) v s.1 s.2.1 s.2.2.1 s.2.2.2.1 s.2.2.2.2.1 s.2.2.2.2.2.1 s.2.2.2.2.2.2.1 s.2.2.2.2.2.2.2.1 s.2.2.2.2.2.2.2.2.1 s.2.2.2.2.2.2.2.2.2.1 s.2.2.2.2.2.2.2.2.2.2
def mBody (N T : Nat) (w : Nat → Int32) : RsT → Option (RsT ⊕ RhT) := fun s => f_X7_readHall_B9 N (nI T) w s.1 s.2.1 s.2.2.1 s.2.2.2.1 s.2.2.2.2.1 s.2.2.2.2.2.1 s.2.2.2.2.2.2.1 s.2.2.2.2.2.2.2.1 s.2.2.2.2.2.2.2.2.1 s.2.2.2.2.2.2.2.2.2
theorem fault_tail {N T : Nat} {v : Nat → Int32} {e : R23} {f : Nat} (h1 : e.1 = nI 0) (h2 : e.2.2.1 = nI f) : ∃ u : RcT, cTail N T v e = some u ∧ u.1 = -20 - nI f := by
  unfold cTail
  rw [if_pos (by rw [h1]; rfl), h2]
  exact ⟨_, rfl, rfl⟩
theorem parse_both {g : Nat → Nat} {T : Nat} {v w : Nat → Int32} (t : tOK g T v) (t2 : tOK g T w) {N : Nat} (hN : 200000 ≤ N) : ∀ (f x : Nat), x + f = 5 → ∀ (a a' L : Nat) (h : Hl) (dq : Nat → Nat) (cdp cme cmo cdi csi cor mme mmo mdi msi mor mdp : Nat → Int32) (rb : Int32) (M M' : Nat), f + 1 < M → f + 1 < M' → a ≤ T → a' ≤ T → sk g T a = sk g T a' → pI x h dq L cdp cme cmo cdi csi cor mme mmo mdi msi mor mdp →
    (∃ (B L' p : Nat) (h' : Hl) (dq' : Nat → Nat) (cdp' cme' cmo' cdi' csi' cor' mme' mmo' mdi' msi' mor' mdp' : Nat → Int32), 1 ≤ B ∧ B ≤ 6 ∧ p ≤ 80 ∧ pI B h' dq' L' cdp' cme' cmo' cdi' csi' cor' mme' mmo' mdi' msi' mor' mdp' ∧
      (f_X4_readClause N (nI T) (nI a) (nI L) v cdp (nI x) cme cmo cdi csi cor).bind (fun u => (lp (cBody N T v) M (u.1, nI (x + 1), u.2.1, u.2.2.1, u.2.2.2.1, u.2.2.2.2.1, u.2.2.2.2.2.1, u.2.2.2.2.2.2.1, u.2.2.2.2.2.2.2.1, u.2.2.2.2.2.2.2.2.1, u.2.2.2.2.2.2.2.2.2)).bind (cTail N T v)) = (f_X4_answerOf N cdp' (nI B) cmo' cdi').bind (fun u11 => some (u11, nI p, nI L', cdp', nI B, cme', cmo', cdi', csi', cor')) ∧
      lp (mBody N T w) M' (nI L, nI x, nI a', rb, mme, mmo, mdi, msi, mor, mdp) = some (nI 1, nI p, nI B, mme', mmo', mdi', msi', mor', mdp')) ∨
    (∃ (q : Nat) (u : RcT) (z : RhT), q ≤ 80 ∧ (f_X4_readClause N (nI T) (nI a) (nI L) v cdp (nI x) cme cmo cdi csi cor).bind (fun u => (lp (cBody N T v) M (u.1, nI (x + 1), u.2.1, u.2.2.1, u.2.2.2.1, u.2.2.2.2.1, u.2.2.2.2.2.1, u.2.2.2.2.2.2.1, u.2.2.2.2.2.2.2.1, u.2.2.2.2.2.2.2.2.1, u.2.2.2.2.2.2.2.2.2)).bind (cTail N T v)) = some u ∧ u.1 = -20 - nI q ∧
      lp (mBody N T w) M' (nI L, nI x, nI a', rb, mme, mmo, mdi, msi, mor, mdp) = some z ∧ z.1 = nI 0 ∧ z.2.1 = nI q) := by
  have hT := t.1
  intro f
  induction f with
  | zero =>
    intro x hxf a a' L h dq cdp cme cmo cdi csi cor mme mmo mdi msi mor mdp rb M M' hM hM' ha ha' haa P
    obtain ⟨M, rfl⟩ : ∃ k, M = k + 1 := ⟨M - 1, by omega⟩
    obtain ⟨M', rfl⟩ : ∃ k, M' = k + 1 := ⟨M' - 1, by omega⟩
    have hx5 : x = 5 := by omega
    subst hx5
    rcases clause_both t t2 hN (by omega) ha ha' haa P rb with ⟨aC, L', h', dq', cdp', cme', cmo', cdi', csi', cor', mme', mmo', mdi', msi', mor', mdp', c1, c2, C1, C2⟩ | ⟨q, u, z, c1, C1, C2, c2, c3, c4, c5⟩
    · have hs := sk_le (g := g) c1
      have S := x_sign t hN c1
      -- behind the sixth clause: the end, or a fault
      have E : lp (cBody N T v) (M + 1) (nI 1, nI 6, nI aC, nI L', cdp', nI 6, cme', cmo', cdi', csi', cor') = some (nI 1, nI 6, nI aC, nI L', cdp', nI 6, cme', cmo', cdi', csi', cor') := lp_stop (by
        unfold cBody f_X4_read_B23; rw [if_pos (by show (6 : Int32) ≤ nI 6; decide)])
      rcases chI_v t (sk g T aC) with ⟨hp, hch, h32, h126⟩ | ⟨hp, hch⟩
      · right
        rw [hch] at S C2
        obtain ⟨z, Z1, Z2, Z3⟩ : ∃ z : RhT, f_X7_readHall_B9 N (nI T) w (nI L) (nI 5) (nI a') rb mme mmo mdi msi mor mdp = some (.inr z) ∧ z.1 = nI 0 ∧ z.2.1 = nI (sk g T aC) := by
          rw [if_pos (by rw [q_le (by omega) (by omega)]; omega)] at C2
          by_cases c : nI (g (sk g T aC)) = nI 59
          · rw [if_pos c, if_pos rfl] at C2; exact ⟨_, C2, rfl, rfl⟩
          · rw [if_neg c] at C2; exact ⟨_, C2, rfl, rfl⟩
        refine ⟨sk g T aC, (-20 - nI (sk g T aC), nI (sk g T aC), nI L', cdp', nI 6, cme', cmo', cdi', csi', cor'), z, by omega, ?_, rfl, lp_stop Z1, Z2, Z3⟩
        refine b_run C1 (b_run E ?_)
        unfold cTail
        rw [if_neg (show ¬ nI 1 = 0 by decide), S, Option.bind_some, if_neg (show ¬ nI (g (sk g T aC)) = -1 from fun q => by have := (m1_ne (a := g (sk g T aC)) (by omega)); rw [show (-1 : Int32) = m1 from rfl, this] at q; exact q)]
        rfl
      · left
        rw [hch] at S C2
        rw [if_neg (show ¬ nI 0 ≤ m1 by decide)] at C2
        refine ⟨6, L', sk g T aC, h', dq', cdp', cme', cmo', cdi', csi', cor', mme', mmo', mdi', msi', mor', mdp', by omega, by omega, by omega, c2, ?_, lp_stop C2⟩
        refine b_run C1 (b_run E ?_)
        unfold cTail
        rw [if_neg (show ¬ nI 1 = 0 by decide), S, Option.bind_some, if_pos (show m1 = -1 from rfl)]
    · right
      obtain ⟨u', U1, U2⟩ := fault_tail (N := N) (T := T) (v := v) (e := (u.1, nI 6, u.2.1, u.2.2.1, u.2.2.2.1, u.2.2.2.2.1, u.2.2.2.2.2.1, u.2.2.2.2.2.2.1, u.2.2.2.2.2.2.2.1, u.2.2.2.2.2.2.2.2.1, u.2.2.2.2.2.2.2.2.2)) c2 c3
      refine ⟨q, u', z, by omega, ?_, U2, lp_stop C2, c4, c5⟩
      refine b_run C1 (b_run (lp_stop ?_) U1)
      unfold cBody f_X4_read_B23; rw [if_pos (by show (6 : Int32) ≤ nI 6; decide)]
  | succ f ih =>
    intro x hxf a a' L h dq cdp cme cmo cdi csi cor mme mmo mdi msi mor mdp rb M M' hM hM' ha ha' haa P
    obtain ⟨M, rfl⟩ : ∃ k, M = k + 1 := ⟨M - 1, by omega⟩
    obtain ⟨M', rfl⟩ : ∃ k, M' = k + 1 := ⟨M' - 1, by omega⟩
    have n6 : ¬ (6 : Int32) ≤ nI (x + 1) := by rw [q_6, q_le (by omega) (by omega)]; omega
    rcases clause_both t t2 hN (by omega) ha ha' haa P rb with ⟨aC, L', h', dq', cdp', cme', cmo', cdi', csi', cor', mme', mmo', mdi', msi', mor', mdp', c1, c2, C1, C2⟩ | ⟨q, u, z, c1, C1, C2, c2, c3, c4, c5⟩
    · have hs := sk_le (g := g) c1
      have S := x_sign t hN c1
      have S2 := x_sign t hN hs.2
      rw [sk_sk c1] at S2
      by_cases semi : sk g T aC < T ∧ g (sk g T aC) = 59
      · have ch : chI g T (sk g T aC) = nI 59 := by unfold chI; rw [if_pos semi.1, semi.2]
        rw [ch] at S C2
        rw [if_pos (by decide), if_pos rfl, if_neg (by omega)] at C2
        -- one more clause
        have E : ∀ r : Option RcT, (f_X4_readClause N (nI T) (nI (sk g T aC + 1)) (nI L') v cdp' (nI (x + 1)) cme' cmo' cdi' csi' cor').bind (fun u => (lp (cBody N T v) M (u.1, nI (x + 1 + 1), u.2.1, u.2.2.1, u.2.2.2.1, u.2.2.2.2.1, u.2.2.2.2.2.1, u.2.2.2.2.2.2.1, u.2.2.2.2.2.2.2.1, u.2.2.2.2.2.2.2.2.1, u.2.2.2.2.2.2.2.2.2)).bind (cTail N T v)) = r → (f_X4_readClause N (nI T) (nI a) (nI L) v cdp (nI x) cme cmo cdi csi cor).bind (fun u => (lp (cBody N T v) (M + 1) (u.1, nI (x + 1), u.2.1, u.2.2.1, u.2.2.2.1, u.2.2.2.2.1, u.2.2.2.2.2.1, u.2.2.2.2.2.2.1, u.2.2.2.2.2.2.2.1, u.2.2.2.2.2.2.2.2.1, u.2.2.2.2.2.2.2.2.2)).bind (cTail N T v)) = r := by
          intro r hr
          refine b_run C1 ?_
          have B : ∀ u5 : RcT, f_X4_readClause N (nI T) (nI (sk g T aC + 1)) (nI L') v cdp' (nI (x + 1)) cme' cmo' cdi' csi' cor' = some u5 → cBody N T v (nI 1, nI (x + 1), nI aC, nI L', cdp', nI (x + 1), cme', cmo', cdi', csi', cor') = some (.inl (u5.1, nI (x + 1 + 1), u5.2.1, u5.2.2.1, u5.2.2.2.1, u5.2.2.2.2.1, u5.2.2.2.2.2.1, u5.2.2.2.2.2.2.1, u5.2.2.2.2.2.2.2.1, u5.2.2.2.2.2.2.2.2.1, u5.2.2.2.2.2.2.2.2.2)) := by
            intro u5 hu5
            unfold cBody f_X4_read_B23
            rw [if_neg n6, if_neg (show ¬ nI 1 = 0 by decide), S, Option.bind_some, if_pos (show nI 59 = 59 from rfl), nI_1, hu5, Option.bind_some, nI_1]
          cases hu : f_X4_readClause N (nI T) (nI (sk g T aC + 1)) (nI L') v cdp' (nI (x + 1)) cme' cmo' cdi' csi' cor' with
          | none =>
            rw [hu] at hr
            have : cBody N T v (nI 1, nI (x + 1), nI aC, nI L', cdp', nI (x + 1), cme', cmo', cdi', csi', cor') = none := by
              unfold cBody f_X4_read_B23
              rw [if_neg n6, if_neg (show ¬ nI 1 = 0 by decide), S, Option.bind_some, if_pos (show nI 59 = 59 from rfl), nI_1, hu]; rfl
            rw [← hr]
            show (lp (cBody N T v) (M + 1) (nI 1, nI (x + 1), nI aC, nI L', cdp', nI (x + 1), cme', cmo', cdi', csi', cor')).bind (cTail N T v) = none
            rw [lp, this]; rfl
          | some u5 =>
            rw [hu, Option.bind_some] at hr
            show (lp (cBody N T v) (M + 1) (nI 1, nI (x + 1), nI aC, nI L', cdp', nI (x + 1), cme', cmo', cdi', csi', cor')).bind (cTail N T v) = r
            rw [lp_step (B u5 hu)]; exact hr
        have EM : lp (mBody N T w) (M' + 1) (nI L, nI x, nI a', rb, mme, mmo, mdi, msi, mor, mdp) = lp (mBody N T w) M' (nI L', nI (x + 1), nI (sk g T aC + 1), nI (x + 1), mme', mmo', mdi', msi', mor', mdp') := lp_step C2
        rw [EM]
        rcases ih (x + 1) (by omega) (sk g T aC + 1) (sk g T aC + 1) L' h' dq' cdp' cme' cmo' cdi' csi' cor' mme' mmo' mdi' msi' mor' mdp' (nI (x + 1)) M M' (by omega) (by omega) (by omega) (by omega) rfl c2 with ⟨B, L2, p, h2, dq2, d1, d2, d3, d4, d5, d6, d7, d8, d9, d10, d11, d12, b1, b2, b3, b4, D1, D2⟩ | ⟨q, u, z, b1, D1, b2, D2, b3, b4⟩
        · exact Or.inl ⟨B, L2, p, h2, dq2, d1, d2, d3, d4, d5, d6, d7, d8, d9, d10, d11, d12, b1, b2, b3, b4, E _ D1, D2⟩
        · exact Or.inr ⟨q, u, z, b1, E _ D1, b2, D2, b3, b4⟩
      · have nch : ¬ chI g T (sk g T aC) = nI 59 := by
          rcases chI_v t (sk g T aC) with ⟨hp, hch, h32, h126⟩ | ⟨hp, hch⟩
          · rw [hch, q_eq (by omega) (by omega)]; exact fun q => semi ⟨hp, q⟩
          · rw [hch]; decide
        have E : lp (cBody N T v) (M + 1) (nI 1, nI (x + 1), nI aC, nI L', cdp', nI (x + 1), cme', cmo', cdi', csi', cor') = some (nI 1, nI (x + 1), nI (sk g T aC), nI L', cdp', nI (x + 1), cme', cmo', cdi', csi', cor') := lp_stop (by
          unfold cBody f_X4_read_B23; rw [if_neg n6, if_neg (show ¬ nI 1 = 0 by decide), S, Option.bind_some, if_neg (show ¬ chI g T (sk g T aC) = 59 from nch)])
        rw [if_neg nch] at C2
        rcases chI_v t (sk g T aC) with ⟨hp, hch, h32, h126⟩ | ⟨hp, hch⟩
        · right
          rw [hch] at S2 C2
          rw [if_pos (by rw [q_le (by omega) (by omega)]; omega)] at C2
          refine ⟨sk g T aC, (-20 - nI (sk g T aC), nI (sk g T aC), nI L', cdp', nI (x + 1), cme', cmo', cdi', csi', cor'), _, by omega, ?_, rfl, lp_stop C2, rfl, rfl⟩
          refine b_run C1 (b_run E ?_)
          unfold cTail
          rw [if_neg (show ¬ nI 1 = 0 by decide), S2, Option.bind_some, if_neg (show ¬ nI (g (sk g T aC)) = -1 from fun q => by have := (m1_ne (a := g (sk g T aC)) (by omega)); rw [show (-1 : Int32) = m1 from rfl, this] at q; exact q)]
          rfl
        · left
          rw [hch] at S2 C2
          rw [if_neg (show ¬ nI 0 ≤ m1 by decide)] at C2
          refine ⟨x + 1, L', sk g T aC, h', dq', cdp', cme', cmo', cdi', csi', cor', mme', mmo', mdi', msi', mor', mdp', by omega, by omega, by omega, c2, ?_, lp_stop C2⟩
          refine b_run C1 (b_run E ?_)
          unfold cTail
          rw [if_neg (show ¬ nI 1 = 0 by decide), S2, Option.bind_some, if_pos (show m1 = -1 from rfl)]
    · right
      obtain ⟨u', U1, U2⟩ := fault_tail (N := N) (T := T) (v := v) (e := (u.1, nI (x + 1), u.2.1, u.2.2.1, u.2.2.2.1, u.2.2.2.2.1, u.2.2.2.2.2.1, u.2.2.2.2.2.2.1, u.2.2.2.2.2.2.2.1, u.2.2.2.2.2.2.2.2.1, u.2.2.2.2.2.2.2.2.2)) c2 c3
      refine ⟨q, u', z, by omega, ?_, U2, lp_stop C2, c4, c5⟩
      refine b_run C1 (b_run (lp_stop ?_) U1)
      unfold cBody f_X4_read_B23
      rw [if_neg n6, if_pos (show u.1 = 0 by rw [c2]; rfl)]
