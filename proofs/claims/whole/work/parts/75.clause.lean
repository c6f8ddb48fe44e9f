theorem chI_v {g : Nat → Nat} {T : Nat} {v : Nat → Int32} (t : tOK g T v) (p : Nat) : (p < T ∧ chI g T p = nI (g p) ∧ 32 ≤ g p ∧ g p ≤ 126) ∨ (T ≤ p ∧ chI g T p = m1) := by
  unfold chI
  by_cases c : p < T
  · left; rw [if_pos c]; exact ⟨c, rfl, (t.2 p c).2⟩
  · right; rw [if_neg c]; exact ⟨by omega, rfl⟩
abbrev RmT : Type := Int32 × Int32 × Int32 × (Nat → Int32) × (Nat → Int32) × (Nat → Int32)
abbrev MmT : Type := Int32 × Int32 × (Nat → Int32) × (Nat → Int32) × (Nat → Int32)
theorem move_both {g : Nat → Nat} {T : Nat} {v w : Nat → Int32} (t : tOK g T v) (t2 : tOK g T w) {N : Nat} (hN : 200000 ≤ N) {e x L : Nat} (he : e ≤ T) (hx : x < 6) (hL : L ≤ 2) (dp cmo cdi mmo mdi mdp : Nat → Int32) :
    (∃ (mv d q a : Nat) (dp' cdi' mdi' mdp' : Nat → Int32), mv ≤ 4 ∧ (mv = 3 → d ≤ 5) ∧ (mv = 4 → 1 ≤ d ∧ d ≤ 3 ∧ L < 2) ∧ a ≤ T ∧ q ≤ 80 ∧
      f_X4_readMove N (nI T) (nI e) (nI L) v dp cmo cdi (nI x) = some (nI 1, nI a, nI (L + if mv = 4 then 1 else 0), dp', upd cmo x (nI mv), cdi') ∧
      f_X7_readMove N (nI T) (nI e) w mmo mdi mdp (nI x) (nI L) = some (nI 1, nI a, upd mmo x (nI mv), mdi', mdp') ∧
      (mv = 3 ∨ mv = 4 → cdi' x = nI d ∧ mdi' x = nI d ∧ dp' x = nI q ∧ mdp' x = nI q) ∧ (mv < 3 → mdi' x = m4) ∧ (∀ b, b ≠ x → cdi' b = cdi b ∧ mdi' b = mdi b ∧ dp' b = dp b ∧ mdp' b = mdp b)) ∨
    (∃ (f : Nat) (u : RmT) (z : MmT), f ≤ T ∧ f_X4_readMove N (nI T) (nI e) (nI L) v dp cmo cdi (nI x) = some u ∧ f_X7_readMove N (nI T) (nI e) w mmo mdi mdp (nI x) (nI L) = some z ∧ u.1 = nI 0 ∧ u.2.1 = nI f ∧ z.1 = nI 0 ∧ z.2.1 = nI f) := by
  have hT := t.1
  have hl := sk_le (g := g) he
  have S := x_sign t hN he
  have S2 := m_next t2 hN he
  generalize sk g T e = p at *
  have FAULT : ∀ (y : Int32), f_X4_sign N (nI T) (nI e) v = some (y, nI p) → f_X7_next N (nI T) (nI e) w = some (y, nI p) → (f_X4_moveOf y = some m1 ∨ (f_X4_moveOf y = some (nI 4) ∧ L = 2)) → f_X7_readMove N (nI T) (nI e) w mmo mdi mdp (nI x) (nI L) = some (nI 0, nI p, mmo, mdi, mdp) → (∃ (f : Nat) (u : RmT) (z : MmT), f ≤ T ∧ f_X4_readMove N (nI T) (nI e) (nI L) v dp cmo cdi (nI x) = some u ∧ f_X7_readMove N (nI T) (nI e) w mmo mdi mdp (nI x) (nI L) = some z ∧ u.1 = nI 0 ∧ u.2.1 = nI f ∧ z.1 = nI 0 ∧ z.2.1 = nI f) := by
    intro y s1 s2 hm hz
    refine ⟨p, (nI 0, nI p, nI L, dp, cmo, cdi), (nI 0, nI p, mmo, mdi, mdp), hl.2, ?_, hz, rfl, rfl, rfl, rfl⟩
    rcases hm with hm | ⟨hm, hL2⟩
    · simp (disch := omega) only [f_X4_readMove, d_let, d_lef, d_ltt, d_ltf, d_eqt, d_eqf, ↓reduceIte, or_false, false_or, or_true, true_or, and_true, true_and, and_false, false_and, not_true_eq_false, not_false_eq_true, Bool.false_eq_true, Option.bind_some, q_ofNat, q_cl, q_lt, q_le, q_eq, nI_add, pk_mul, q_m1, q_m4, m1_lt, m1_le, m1_nlt, m1_nle, m1_ne, m1_ne2, m4_lt, m4_le, m4_nlt, m4_nle, m4_ne, m4_ne2, q_0, q_1, q_2, q_3, q_4, q_5, q_6, q_8, q_12, q_15, q_16, q_20, q_24, q_30, q_31, q_32, q_80, q_9, q_99, q_126, q_48, q_57, q_58, q_59, q_97, q_101, q_10, q_21, q_255, q_46656, s1, hm]
    · simp (disch := omega) only [f_X4_readMove, d_let, d_lef, d_ltt, d_ltf, d_eqt, d_eqf, ↓reduceIte, or_false, false_or, or_true, true_or, and_true, true_and, and_false, false_and, not_true_eq_false, not_false_eq_true, Bool.false_eq_true, Option.bind_some, q_ofNat, q_cl, q_lt, q_le, q_eq, nI_add, pk_mul, q_m1, q_m4, m1_lt, m1_le, m1_nlt, m1_nle, m1_ne, m1_ne2, m4_lt, m4_le, m4_nlt, m4_nle, m4_ne, m4_ne2, q_0, q_1, q_2, q_3, q_4, q_5, q_6, q_8, q_12, q_15, q_16, q_20, q_24, q_30, q_31, q_32, q_80, q_9, q_99, q_126, q_48, q_57, q_58, q_59, q_97, q_101, q_10, q_21, q_255, q_46656, s1, hm]
  rcases chI_v t p with ⟨hp, hc, h32, h126⟩ | ⟨hp, hc⟩
  · rw [hc] at S S2
    have M := mv_x (c := g p) (by omega)
    have hmv := mvC_le (g p)
    by_cases c9 : mvC (g p) = 9
    · right
      rw [if_pos c9] at M
      refine FAULT _ S S2 (Or.inl M) ?_
      unfold mvC at c9
      have k1 : g p ≠ 102 := fun q => by rw [if_pos q] at c9; omega
      rw [if_neg k1] at c9
      have k2 : g p ≠ 110 := fun q => by rw [if_pos q] at c9; omega
      rw [if_neg k2] at c9
      have k3 : g p ≠ 108 := fun q => by rw [if_pos q] at c9; omega
      rw [if_neg k3] at c9
      have k4 : g p ≠ 111 := fun q => by rw [if_pos q] at c9; omega
      rw [if_neg k4] at c9
      have k5 : g p ≠ 107 := fun q => by rw [if_pos q] at c9; omega
      simp (disch := omega) only [f_X7_readMove, f_X7_readMove_L60, f_X7_readMove_L61, d_let, d_lef, d_ltt, d_ltf, d_eqt, d_eqf, ↓reduceIte, or_false, false_or, or_true, true_or, and_true, true_and, and_false, false_and, not_true_eq_false, not_false_eq_true, Bool.false_eq_true, Option.bind_some, q_ofNat, q_cl, q_lt, q_le, q_eq, nI_add, pk_mul, q_m1, q_m4, m1_lt, m1_le, m1_nlt, m1_nle, m1_ne, m1_ne2, m4_lt, m4_le, m4_nlt, m4_nle, m4_ne, m4_ne2, q_0, q_1, q_2, q_3, q_4, q_5, q_6, q_8, q_12, q_15, q_16, q_20, q_24, q_30, q_31, q_32, q_80, q_9, q_99, q_126, q_48, q_57, q_58, q_59, q_97, q_101, q_10, q_21, q_255, q_46656, S2, show (102 : Int32) = nI 102 from rfl, show (110 : Int32) = nI 110 from rfl, show (108 : Int32) = nI 108 from rfl, show (111 : Int32) = nI 111 from rfl, show (107 : Int32) = nI 107 from rfl]
    · rw [if_neg c9] at M
      by_cases c4 : mvC (g p) = 4 ∧ L = 2
      · right
        rw [c4.1] at M
        refine FAULT _ S S2 (Or.inr ⟨M, c4.2⟩) ?_
        have k5 : g p = 107 := by
          have c := c4.1
          unfold mvC at c
          split at c; omega; split at c; omega; split at c; omega; split at c; omega; split at c; assumption; omega
        have hL2 := c4.2
        simp (disch := omega) only [f_X7_readMove, f_X7_readMove_L60, f_X7_readMove_L61, d_let, d_lef, d_ltt, d_ltf, d_eqt, d_eqf, ↓reduceIte, or_false, false_or, or_true, true_or, and_true, true_and, and_false, false_and, not_true_eq_false, not_false_eq_true, Bool.false_eq_true, Option.bind_some, q_ofNat, q_cl, q_lt, q_le, q_eq, nI_add, pk_mul, q_m1, q_m4, m1_lt, m1_le, m1_nlt, m1_nle, m1_ne, m1_ne2, m4_lt, m4_le, m4_nlt, m4_nle, m4_ne, m4_ne2, q_0, q_1, q_2, q_3, q_4, q_5, q_6, q_8, q_12, q_15, q_16, q_20, q_24, q_30, q_31, q_32, q_80, q_9, q_99, q_126, q_48, q_57, q_58, q_59, q_97, q_101, q_10, q_21, q_255, q_46656, S2, show (102 : Int32) = nI 102 from rfl, show (110 : Int32) = nI 110 from rfl, show (108 : Int32) = nI 108 from rfl, show (111 : Int32) = nI 111 from rfl, show (107 : Int32) = nI 107 from rfl]
      · -- the move is there: how both go on
        have KM : f_X7_readMove N (nI T) (nI e) w mmo mdi mdp (nI x) (nI L) = f_X7_readMove_L61 N (nI T) w mmo mdi mdp (nI x) (nI p) (nI (mvC (g p))) := by
          have l5 : g p = 107 → L < 2 := fun q => by
            have : mvC (g p) = 4 := by rw [q]; rfl
            omega
          unfold mvC at c9 ⊢
          by_cases k1 : g p = 102
          · simp (disch := omega) only [f_X7_readMove, d_let, d_lef, d_ltt, d_ltf, d_eqt, d_eqf, ↓reduceIte, or_false, false_or, or_true, true_or, and_true, true_and, and_false, false_and, not_true_eq_false, not_false_eq_true, Bool.false_eq_true, Option.bind_some, q_ofNat, q_cl, q_lt, q_le, q_eq, nI_add, pk_mul, q_m1, q_m4, m1_lt, m1_le, m1_nlt, m1_nle, m1_ne, m1_ne2, m4_lt, m4_le, m4_nlt, m4_nle, m4_ne, m4_ne2, q_0, q_1, q_2, q_3, q_4, q_5, q_6, q_8, q_12, q_15, q_16, q_20, q_24, q_30, q_31, q_32, q_80, q_9, q_99, q_126, q_48, q_57, q_58, q_59, q_97, q_101, q_10, q_21, q_255, q_46656, S2, show (102 : Int32) = nI 102 from rfl]
          · by_cases k2 : g p = 110
            · simp (disch := omega) only [f_X7_readMove, d_let, d_lef, d_ltt, d_ltf, d_eqt, d_eqf, ↓reduceIte, or_false, false_or, or_true, true_or, and_true, true_and, and_false, false_and, not_true_eq_false, not_false_eq_true, Bool.false_eq_true, Option.bind_some, q_ofNat, q_cl, q_lt, q_le, q_eq, nI_add, pk_mul, q_m1, q_m4, m1_lt, m1_le, m1_nlt, m1_nle, m1_ne, m1_ne2, m4_lt, m4_le, m4_nlt, m4_nle, m4_ne, m4_ne2, q_0, q_1, q_2, q_3, q_4, q_5, q_6, q_8, q_12, q_15, q_16, q_20, q_24, q_30, q_31, q_32, q_80, q_9, q_99, q_126, q_48, q_57, q_58, q_59, q_97, q_101, q_10, q_21, q_255, q_46656, S2, show (102 : Int32) = nI 102 from rfl, show (110 : Int32) = nI 110 from rfl]
            · by_cases k3 : g p = 108
              · simp (disch := omega) only [f_X7_readMove, d_let, d_lef, d_ltt, d_ltf, d_eqt, d_eqf, ↓reduceIte, or_false, false_or, or_true, true_or, and_true, true_and, and_false, false_and, not_true_eq_false, not_false_eq_true, Bool.false_eq_true, Option.bind_some, q_ofNat, q_cl, q_lt, q_le, q_eq, nI_add, pk_mul, q_m1, q_m4, m1_lt, m1_le, m1_nlt, m1_nle, m1_ne, m1_ne2, m4_lt, m4_le, m4_nlt, m4_nle, m4_ne, m4_ne2, q_0, q_1, q_2, q_3, q_4, q_5, q_6, q_8, q_12, q_15, q_16, q_20, q_24, q_30, q_31, q_32, q_80, q_9, q_99, q_126, q_48, q_57, q_58, q_59, q_97, q_101, q_10, q_21, q_255, q_46656, S2, show (102 : Int32) = nI 102 from rfl, show (110 : Int32) = nI 110 from rfl, show (108 : Int32) = nI 108 from rfl]
              · by_cases k4 : g p = 111
                · simp (disch := omega) only [f_X7_readMove, d_let, d_lef, d_ltt, d_ltf, d_eqt, d_eqf, ↓reduceIte, or_false, false_or, or_true, true_or, and_true, true_and, and_false, false_and, not_true_eq_false, not_false_eq_true, Bool.false_eq_true, Option.bind_some, q_ofNat, q_cl, q_lt, q_le, q_eq, nI_add, pk_mul, q_m1, q_m4, m1_lt, m1_le, m1_nlt, m1_nle, m1_ne, m1_ne2, m4_lt, m4_le, m4_nlt, m4_nle, m4_ne, m4_ne2, q_0, q_1, q_2, q_3, q_4, q_5, q_6, q_8, q_12, q_15, q_16, q_20, q_24, q_30, q_31, q_32, q_80, q_9, q_99, q_126, q_48, q_57, q_58, q_59, q_97, q_101, q_10, q_21, q_255, q_46656, S2, show (102 : Int32) = nI 102 from rfl, show (110 : Int32) = nI 110 from rfl, show (108 : Int32) = nI 108 from rfl, show (111 : Int32) = nI 111 from rfl]
                · by_cases k5 : g p = 107
                  · have l5 := l5 k5
                    simp (disch := omega) only [f_X7_readMove, d_let, d_lef, d_ltt, d_ltf, d_eqt, d_eqf, ↓reduceIte, or_false, false_or, or_true, true_or, and_true, true_and, and_false, false_and, not_true_eq_false, not_false_eq_true, Bool.false_eq_true, Option.bind_some, q_ofNat, q_cl, q_lt, q_le, q_eq, nI_add, pk_mul, q_m1, q_m4, m1_lt, m1_le, m1_nlt, m1_nle, m1_ne, m1_ne2, m4_lt, m4_le, m4_nlt, m4_nle, m4_ne, m4_ne2, q_0, q_1, q_2, q_3, q_4, q_5, q_6, q_8, q_12, q_15, q_16, q_20, q_24, q_30, q_31, q_32, q_80, q_9, q_99, q_126, q_48, q_57, q_58, q_59, q_97, q_101, q_10, q_21, q_255, q_46656, S2, show (102 : Int32) = nI 102 from rfl, show (110 : Int32) = nI 110 from rfl, show (108 : Int32) = nI 108 from rfl, show (111 : Int32) = nI 111 from rfl, show (107 : Int32) = nI 107 from rfl]
                  · rw [if_neg k1, if_neg k2, if_neg k3, if_neg k4, if_neg k5] at c9; exact absurd rfl c9
        generalize mvC (g p) = mv at *
        have hm4 : mv ≤ 4 := by omega
        have KX : f_X4_readMove N (nI T) (nI e) (nI L) v dp cmo cdi (nI x) = f_X4_readMove_L28 N (nI T) (nI L) v dp cmo cdi (nI x) (nI mv) (nI p) := by
          by_cases c : mv = 4
          · simp (disch := omega) only [f_X4_readMove, d_let, d_lef, d_ltt, d_ltf, d_eqt, d_eqf, ↓reduceIte, or_false, false_or, or_true, true_or, and_true, true_and, and_false, false_and, not_true_eq_false, not_false_eq_true, Bool.false_eq_true, Option.bind_some, q_ofNat, q_cl, q_lt, q_le, q_eq, nI_add, pk_mul, q_m1, q_m4, m1_lt, m1_le, m1_nlt, m1_nle, m1_ne, m1_ne2, m4_lt, m4_le, m4_nlt, m4_nle, m4_ne, m4_ne2, q_0, q_1, q_2, q_3, q_4, q_5, q_6, q_8, q_12, q_15, q_16, q_20, q_24, q_30, q_31, q_32, q_80, q_9, q_99, q_126, q_48, q_57, q_58, q_59, q_97, q_101, q_10, q_21, q_255, q_46656, S, M]
          · simp (disch := omega) only [f_X4_readMove, d_let, d_lef, d_ltt, d_ltf, d_eqt, d_eqf, ↓reduceIte, or_false, false_or, or_true, true_or, and_true, true_and, and_false, false_and, not_true_eq_false, not_false_eq_true, Bool.false_eq_true, Option.bind_some, q_ofNat, q_cl, q_lt, q_le, q_eq, nI_add, pk_mul, q_m1, q_m4, m1_lt, m1_le, m1_nlt, m1_nle, m1_ne, m1_ne2, m4_lt, m4_le, m4_nlt, m4_nle, m4_ne, m4_ne2, q_0, q_1, q_2, q_3, q_4, q_5, q_6, q_8, q_12, q_15, q_16, q_20, q_24, q_30, q_31, q_32, q_80, q_9, q_99, q_126, q_48, q_57, q_58, q_59, q_97, q_101, q_10, q_21, q_255, q_46656, S, M]
        rw [KM, KX]
        by_cases m3 : mv < 3
        · left
          refine ⟨mv, 0, 0, p + 1, dp, upd cdi x (nI 0), upd mdi x m4, mdp, hm4, by omega, by omega, by omega, by omega, ?_, ?_, fun q => by omega, fun _ => pk_us, fun b hb => ⟨pk_un hb, pk_un hb, rfl, rfl⟩⟩
          · simp (disch := omega) only [f_X4_readMove_L28, d_let, d_lef, d_ltt, d_ltf, d_eqt, d_eqf, ↓reduceIte, or_false, false_or, or_true, true_or, and_true, true_and, and_false, false_and, not_true_eq_false, not_false_eq_true, Bool.false_eq_true, Option.bind_some, q_ofNat, q_cl, q_lt, q_le, q_eq, nI_add, pk_mul, q_m1, q_m4, m1_lt, m1_le, m1_nlt, m1_nle, m1_ne, m1_ne2, m4_lt, m4_le, m4_nlt, m4_nle, m4_ne, m4_ne2, q_0, q_1, q_2, q_3, q_4, q_5, q_6, q_8, q_12, q_15, q_16, q_20, q_24, q_30, q_31, q_32, q_80, q_9, q_99, q_126, q_48, q_57, q_58, q_59, q_97, q_101, q_10, q_21, q_255, q_46656, Nat.add_zero]
          · simp (disch := omega) only [f_X7_readMove_L61, d_let, d_lef, d_ltt, d_ltf, d_eqt, d_eqf, ↓reduceIte, or_false, false_or, or_true, true_or, and_true, true_and, and_false, false_and, not_true_eq_false, not_false_eq_true, Bool.false_eq_true, Option.bind_some, q_ofNat, q_cl, q_lt, q_le, q_eq, nI_add, pk_mul, q_m1, q_m4, m1_lt, m1_le, m1_nlt, m1_nle, m1_ne, m1_ne2, m4_lt, m4_le, m4_nlt, m4_nle, m4_ne, m4_ne2, q_0, q_1, q_2, q_3, q_4, q_5, q_6, q_8, q_12, q_15, q_16, q_20, q_24, q_30, q_31, q_32, q_80, q_9, q_99, q_126, q_48, q_57, q_58, q_59, q_97, q_101, q_10, q_21, q_255, q_46656]
        · by_cases m33 : mv = 3
          · subst m33
            rcases digit_both t t2 hN (a := p + 1) (x := x) (lo := 48) (hi := 53) (by omega) hx (by decide) (by decide) (by decide) dp (upd cdi x (nI 0)) with ⟨d, q, d1, d2, d3, d4, d5, D1, D2⟩ | ⟨D1, y, D2, D3, D4, D5⟩
            · left
              have I := mi_0_5 (nI d)
              rw [if_pos (by rw [nI_toInt (by omega)]; omega)] at I
              have D2' : nI (d + 48) - nI 48 = nI d := by rw [q_sub (by omega)]; congr 1
              refine ⟨3, d, q, q + 1, upd dp x (nI q), upd (upd cdi x (nI 0)) x (nI d), upd (upd mdi x m4) x (nI d), upd mdp x (nI q), by omega, by omega, by omega, by omega, by omega, ?_, ?_, fun _ => ⟨pk_us, pk_us, pk_us, pk_us⟩, fun q => by omega, fun b hb => ⟨by rw [pk_un hb, pk_un hb], by rw [pk_un hb, pk_un hb], pk_un hb, pk_un hb⟩⟩
              · simp (disch := omega) only [f_X4_readMove_L28, d_let, d_lef, d_ltt, d_ltf, d_eqt, d_eqf, ↓reduceIte, or_false, false_or, or_true, true_or, and_true, true_and, and_false, false_and, not_true_eq_false, not_false_eq_true, Bool.false_eq_true, Option.bind_some, q_ofNat, q_cl, q_lt, q_le, q_eq, nI_add, pk_mul, q_m1, q_m4, m1_lt, m1_le, m1_nlt, m1_nle, m1_ne, m1_ne2, m4_lt, m4_le, m4_nlt, m4_nle, m4_ne, m4_ne2, q_0, q_1, q_2, q_3, q_4, q_5, q_6, q_8, q_12, q_15, q_16, q_20, q_24, q_30, q_31, q_32, q_80, q_9, q_99, q_126, q_48, q_57, q_58, q_59, q_97, q_101, q_10, q_21, q_255, q_46656, Nat.add_zero, show (53 : Int32) = nI 53 from rfl, D1]
              · simp (disch := omega) only [f_X7_readMove_L61, f_X7_readMove_L127, f_X7_readMove_L142, d_let, d_lef, d_ltt, d_ltf, d_eqt, d_eqf, ↓reduceIte, or_false, false_or, or_true, true_or, and_true, true_and, and_false, false_and, not_true_eq_false, not_false_eq_true, Bool.false_eq_true, Option.bind_some, q_ofNat, q_cl, q_lt, q_le, q_eq, nI_add, pk_mul, q_m1, q_m4, m1_lt, m1_le, m1_nlt, m1_nle, m1_ne, m1_ne2, m4_lt, m4_le, m4_nlt, m4_nle, m4_ne, m4_ne2, q_0, q_1, q_2, q_3, q_4, q_5, q_6, q_8, q_12, q_15, q_16, q_20, q_24, q_30, q_31, q_32, q_80, q_9, q_99, q_126, q_48, q_57, q_58, q_59, q_97, q_101, q_10, q_21, q_255, q_46656, D2, D2', I]
            · right
              have hs := sk_le (g := g) (T := T) (a := p + 1) (by omega)
              have I := mi_0_5 (y - 48)
              have ey : (y - 48).toInt = y.toInt - 48 := by
                rw [Int32.toInt_sub, show (48 : Int32).toInt = 48 from rfl]; exact Int.bmod_eq_of_le (by omega) (by omega)
              rw [if_neg (by rw [ey]; omega)] at I
              refine ⟨sk g T (p + 1), (nI 0, nI (sk g T (p + 1)), nI L, dp, upd cmo x (nI 3), upd cdi x (nI 0)), (nI 0, nI (sk g T (p + 1)), upd mmo x (nI 3), upd mdi x m4, mdp), hs.2, ?_, ?_, rfl, rfl, rfl, rfl⟩
              · simp (disch := omega) only [f_X4_readMove_L28, d_let, d_lef, d_ltt, d_ltf, d_eqt, d_eqf, ↓reduceIte, or_false, false_or, or_true, true_or, and_true, true_and, and_false, false_and, not_true_eq_false, not_false_eq_true, Bool.false_eq_true, Option.bind_some, q_ofNat, q_cl, q_lt, q_le, q_eq, nI_add, pk_mul, q_m1, q_m4, m1_lt, m1_le, m1_nlt, m1_nle, m1_ne, m1_ne2, m4_lt, m4_le, m4_nlt, m4_nle, m4_ne, m4_ne2, q_0, q_1, q_2, q_3, q_4, q_5, q_6, q_8, q_12, q_15, q_16, q_20, q_24, q_30, q_31, q_32, q_80, q_9, q_99, q_126, q_48, q_57, q_58, q_59, q_97, q_101, q_10, q_21, q_255, q_46656, show (53 : Int32) = nI 53 from rfl, D1]
              · rw [q_48] at I
                simp (disch := omega) only [f_X7_readMove_L61, f_X7_readMove_L127, f_X7_readMove_L142, d_let, d_lef, d_ltt, d_ltf, d_eqt, d_eqf, ↓reduceIte, or_false, false_or, or_true, true_or, and_true, true_and, and_false, false_and, not_true_eq_false, not_false_eq_true, Bool.false_eq_true, Option.bind_some, q_ofNat, q_cl, q_lt, q_le, q_eq, nI_add, pk_mul, q_m1, q_m4, m1_lt, m1_le, m1_nlt, m1_nle, m1_ne, m1_ne2, m4_lt, m4_le, m4_nlt, m4_nle, m4_ne, m4_ne2, q_0, q_1, q_2, q_3, q_4, q_5, q_6, q_8, q_12, q_15, q_16, q_20, q_24, q_30, q_31, q_32, q_80, q_9, q_99, q_126, q_48, q_57, q_58, q_59, q_97, q_101, q_10, q_21, q_255, q_46656, D2, I]
          · have m44 : mv = 4 := by omega
            subst m44
            have hL2 : L < 2 := by omega
            rcases digit_both t t2 hN (a := p + 1) (x := x) (lo := 49) (hi := 51) (by omega) hx (by decide) (by decide) (by decide) dp (upd cdi x (nI 0)) with ⟨d, q, d1, d2, d3, d4, d5, D1, D2⟩ | ⟨D1, y, D2, D3, D4, D5⟩
            · left
              have I := mi_1_3 (nI d)
              rw [if_pos (by rw [nI_toInt (by omega)]; omega)] at I
              have D2' : nI (d + 48) - nI 48 = nI d := by rw [q_sub (by omega)]; congr 1
              refine ⟨4, d, q, q + 1, upd dp x (nI q), upd (upd cdi x (nI 0)) x (nI d), upd (upd mdi x m4) x (nI d), upd mdp x (nI q), by omega, by omega, fun _ => ⟨by omega, by omega, hL2⟩, by omega, by omega, ?_, ?_, fun _ => ⟨pk_us, pk_us, pk_us, pk_us⟩, fun q => by omega, fun b hb => ⟨by rw [pk_un hb, pk_un hb], by rw [pk_un hb, pk_un hb], pk_un hb, pk_un hb⟩⟩
              · simp (disch := omega) only [f_X4_readMove_L28, d_let, d_lef, d_ltt, d_ltf, d_eqt, d_eqf, ↓reduceIte, or_false, false_or, or_true, true_or, and_true, true_and, and_false, false_and, not_true_eq_false, not_false_eq_true, Bool.false_eq_true, Option.bind_some, q_ofNat, q_cl, q_lt, q_le, q_eq, nI_add, pk_mul, q_m1, q_m4, m1_lt, m1_le, m1_nlt, m1_nle, m1_ne, m1_ne2, m4_lt, m4_le, m4_nlt, m4_nle, m4_ne, m4_ne2, q_0, q_1, q_2, q_3, q_4, q_5, q_6, q_8, q_12, q_15, q_16, q_20, q_24, q_30, q_31, q_32, q_80, q_9, q_99, q_126, q_48, q_57, q_58, q_59, q_97, q_101, q_10, q_21, q_255, q_46656, show (49 : Int32) = nI 49 from rfl, show (51 : Int32) = nI 51 from rfl, D1]
              · simp (disch := omega) only [f_X7_readMove_L61, f_X7_readMove_L127, f_X7_readMove_L142, d_let, d_lef, d_ltt, d_ltf, d_eqt, d_eqf, ↓reduceIte, or_false, false_or, or_true, true_or, and_true, true_and, and_false, false_and, not_true_eq_false, not_false_eq_true, Bool.false_eq_true, Option.bind_some, q_ofNat, q_cl, q_lt, q_le, q_eq, nI_add, pk_mul, q_m1, q_m4, m1_lt, m1_le, m1_nlt, m1_nle, m1_ne, m1_ne2, m4_lt, m4_le, m4_nlt, m4_nle, m4_ne, m4_ne2, q_0, q_1, q_2, q_3, q_4, q_5, q_6, q_8, q_12, q_15, q_16, q_20, q_24, q_30, q_31, q_32, q_80, q_9, q_99, q_126, q_48, q_57, q_58, q_59, q_97, q_101, q_10, q_21, q_255, q_46656, D2, D2', I]
            · right
              have hs := sk_le (g := g) (T := T) (a := p + 1) (by omega)
              have I := mi_1_3 (y - 48)
              have ey : (y - 48).toInt = y.toInt - 48 := by
                rw [Int32.toInt_sub, show (48 : Int32).toInt = 48 from rfl]; exact Int.bmod_eq_of_le (by omega) (by omega)
              rw [if_neg (by rw [ey]; omega)] at I
              refine ⟨sk g T (p + 1), (nI 0, nI (sk g T (p + 1)), nI (L + 1), dp, upd cmo x (nI 4), upd cdi x (nI 0)), (nI 0, nI (sk g T (p + 1)), upd mmo x (nI 4), upd mdi x m4, mdp), hs.2, ?_, ?_, rfl, rfl, rfl, rfl⟩
              · simp (disch := omega) only [f_X4_readMove_L28, d_let, d_lef, d_ltt, d_ltf, d_eqt, d_eqf, ↓reduceIte, or_false, false_or, or_true, true_or, and_true, true_and, and_false, false_and, not_true_eq_false, not_false_eq_true, Bool.false_eq_true, Option.bind_some, q_ofNat, q_cl, q_lt, q_le, q_eq, nI_add, pk_mul, q_m1, q_m4, m1_lt, m1_le, m1_nlt, m1_nle, m1_ne, m1_ne2, m4_lt, m4_le, m4_nlt, m4_nle, m4_ne, m4_ne2, q_0, q_1, q_2, q_3, q_4, q_5, q_6, q_8, q_12, q_15, q_16, q_20, q_24, q_30, q_31, q_32, q_80, q_9, q_99, q_126, q_48, q_57, q_58, q_59, q_97, q_101, q_10, q_21, q_255, q_46656, show (49 : Int32) = nI 49 from rfl, show (51 : Int32) = nI 51 from rfl, D1]
              · rw [q_48] at I
                simp (disch := omega) only [f_X7_readMove_L61, f_X7_readMove_L127, f_X7_readMove_L142, d_let, d_lef, d_ltt, d_ltf, d_eqt, d_eqf, ↓reduceIte, or_false, false_or, or_true, true_or, and_true, true_and, and_false, false_and, not_true_eq_false, not_false_eq_true, Bool.false_eq_true, Option.bind_some, q_ofNat, q_cl, q_lt, q_le, q_eq, nI_add, pk_mul, q_m1, q_m4, m1_lt, m1_le, m1_nlt, m1_nle, m1_ne, m1_ne2, m4_lt, m4_le, m4_nlt, m4_nle, m4_ne, m4_ne2, q_0, q_1, q_2, q_3, q_4, q_5, q_6, q_8, q_12, q_15, q_16, q_20, q_24, q_30, q_31, q_32, q_80, q_9, q_99, q_126, q_48, q_57, q_58, q_59, q_97, q_101, q_10, q_21, q_255, q_46656, D2, I]
  · rw [hc] at S S2
    right
    refine FAULT _ S S2 (Or.inl rfl) ?_
    simp (disch := omega) only [f_X7_readMove, f_X7_readMove_L60, f_X7_readMove_L61, d_let, d_lef, d_ltt, d_ltf, d_eqt, d_eqf, ↓reduceIte, or_false, false_or, or_true, true_or, and_true, true_and, and_false, false_and, not_true_eq_false, not_false_eq_true, Bool.false_eq_true, Option.bind_some, q_ofNat, q_cl, q_lt, q_le, q_eq, nI_add, pk_mul, q_m1, q_m4, m1_lt, m1_le, m1_nlt, m1_nle, m1_ne, m1_ne2, m4_lt, m4_le, m4_nlt, m4_nle, m4_ne, m4_ne2, q_0, q_1, q_2, q_3, q_4, q_5, q_6, q_8, q_12, q_15, q_16, q_20, q_24, q_30, q_31, q_32, q_80, q_9, q_99, q_126, q_48, q_57, q_58, q_59, q_97, q_101, q_10, q_21, q_255, q_46656, S2, show (102 : Int32) = nI 102 from rfl, show (110 : Int32) = nI 110 from rfl, show (108 : Int32) = nI 108 from rfl, show (111 : Int32) = nI 111 from rfl, show (107 : Int32) = nI 107 from rfl]
-- names
theorem x_placeR {N : Nat} (hN : 200000 ≤ N) {vsi vor : Nat → Int32} {x n c : Nat} {o : Nat → Nat} (hx : x < 6) (hn : n ≤ 5) (hs : vsi x = nI n) (ho : ∀ j, j < n → vor (5 * x + j) = nI (o j) ∧ o j < 5) (hc : c < 5) : f_X5_place N vsi vor (nI x) (nI c) = some (if ff (fun j => decide (o j = c)) 0 n < n then nI (ff (fun j => decide (o j = c)) 0 n) else m1) := by
  unfold f_X5_place
  refine b_run (lp_find (fun i => nI i) (fun j => decide (o j = c)) n 0 (fun i => nI i) m1 (by omega) (by omega) rfl ?_ ?_ ?_) rfl
  · intro i _ hi hP
    have hP := of_decide_eq_false hP
    obtain ⟨e1, e2⟩ := ho i hi
    simp (disch := omega) only [f_X5_place_B7, d_let, d_lef, d_ltt, d_ltf, d_eqt, d_eqf, ↓reduceIte, or_false, false_or, or_true, true_or, and_true, true_and, and_false, false_and, not_true_eq_false, not_false_eq_true, Bool.false_eq_true, Option.bind_some, q_ofNat, q_cl, q_lt, q_le, q_eq, nI_add, pk_mul, q_m1, q_m4, m1_lt, m1_le, m1_nlt, m1_nle, m1_ne, m1_ne2, m4_lt, m4_le, m4_nlt, m4_nle, m4_ne, m4_ne2, q_0, q_1, q_2, q_3, q_4, q_5, q_6, q_8, q_12, q_15, q_16, q_20, q_24, q_30, q_31, q_32, q_80, q_9, q_99, q_126, q_48, q_57, q_58, q_59, q_97, q_101, q_10, q_21, q_255, q_46656, hs, Nat.mul_comm x 5, e1]
  · intro i _ hi hP
    have hP := of_decide_eq_true hP
    obtain ⟨e1, e2⟩ := ho i hi
    simp (disch := omega) only [f_X5_place_B7, d_let, d_lef, d_ltt, d_ltf, d_eqt, d_eqf, ↓reduceIte, or_false, false_or, or_true, true_or, and_true, true_and, and_false, false_and, not_true_eq_false, not_false_eq_true, Bool.false_eq_true, Option.bind_some, q_ofNat, q_cl, q_lt, q_le, q_eq, nI_add, pk_mul, q_m1, q_m4, m1_lt, m1_le, m1_nlt, m1_nle, m1_ne, m1_ne2, m4_lt, m4_le, m4_nlt, m4_nle, m4_ne, m4_ne2, q_0, q_1, q_2, q_3, q_4, q_5, q_6, q_8, q_12, q_15, q_16, q_20, q_24, q_30, q_31, q_32, q_80, q_9, q_99, q_126, q_48, q_57, q_58, q_59, q_97, q_101, q_10, q_21, q_255, q_46656, hs, Nat.mul_comm x 5, e1]
  · simp (disch := omega) only [f_X5_place_B7, d_let, d_lef, d_ltt, d_ltf, d_eqt, d_eqf, ↓reduceIte, or_false, false_or, or_true, true_or, and_true, true_and, and_false, false_and, not_true_eq_false, not_false_eq_true, Bool.false_eq_true, Option.bind_some, q_ofNat, q_cl, q_lt, q_le, q_eq, nI_add, pk_mul, q_m1, q_m4, m1_lt, m1_le, m1_nlt, m1_nle, m1_ne, m1_ne2, m4_lt, m4_le, m4_nlt, m4_nle, m4_ne, m4_ne2, q_0, q_1, q_2, q_3, q_4, q_5, q_6, q_8, q_12, q_15, q_16, q_20, q_24, q_30, q_31, q_32, q_80, q_9, q_99, q_126, q_48, q_57, q_58, q_59, q_97, q_101, q_10, q_21, q_255, q_46656, hs]
def seen (o : Nat → Nat) (n k : Nat) : Bool := decide (ff (fun j => decide (o j = k)) 0 n < n)
theorem seen_t {o : Nat → Nat} {n k : Nat} (h : seen o n k = true) : ∃ j, j < n ∧ o j = k := by
  have h := of_decide_eq_true h
  exact ⟨_, h, of_decide_eq_true (ff_yes (fun j => decide (o j = k)) n 0 (by omega))⟩
theorem seen_f {o : Nat → Nat} {n k : Nat} (h : seen o n k = false) : ∀ j, j < n → o j ≠ k := by
  have h := of_decide_eq_false h
  intro j hj
  have a := ff_le (fun j => decide (o j = k)) n 0
  exact of_decide_eq_false (ff_no (fun j => decide (o j = k)) n 0 j (by omega) (by omega))
theorem seen_i {o : Nat → Nat} {n k j : Nat} (hj : j < n) (h : o j = k) : seen o n k = true := by
  refine Classical.byContradiction (fun q => seen_f (Bool.eq_false_iff.mpr q) j hj h)
theorem seen_congr {o o' : Nat → Nat} {n k : Nat} (h : ∀ j, j < n → o' j = o j) : seen o' n k = seen o n k := by
  unfold seen
  rw [ff_congr n 0 (fun j _ hj => by rw [h j (by omega)])]
theorem bs_congr {P Q : Nat → Bool} {n : Nat} (h : ∀ k, k < n → P k = Q k) : bs P n = bs Q n := sm_congr n (fun k hk => by rw [h k hk])
theorem bs_ins {P Q : Nat → Bool} {n c : Nat} (hc : c < n) (h : ∀ k, k < n → Q k = (P k || decide (k = c))) : bs Q n = bs P n ||| 2 ^ c := by
  have hP := bs_lt P n; have hQ := bs_lt Q n
  apply Nat.eq_of_testBit_eq
  intro k
  have B : ∀ (x k : Nat), x.testBit k = decide (x / 2 ^ k % 2 = 1) := fun x k => Nat.testBit_eq_decide_div_mod_eq
  rw [Nat.testBit_or, B, B, bs_bit, bs_bit, Nat.testBit_two_pow]
  by_cases hk : k < n
  · have := h k hk
    by_cases e : k = c
    · subst e
      have q : Q k = true := by rw [this]; simp
      rw [if_pos ⟨hk, q⟩]; simp
    · have q : Q k = P k := by rw [this]; simp [e]
      rw [q, show decide (c = k) = false from decide_eq_false (fun z => e z.symm), Bool.or_false]
  · rw [if_neg (fun q => hk q.1), if_neg (fun q => hk q.1), show decide (c = k) = false from decide_eq_false (fun z => by omega)]; rfl
theorem five {o : Nat → Nat} (h5 : ∀ j, j < 5 → o j < 5) (hd : ∀ i j, i < j → j < 5 → o i ≠ o j) {c : Nat} (hc : c < 5) : seen o 5 c = true := by
  refine Classical.byContradiction (fun q => ?_)
  have hn := seen_f (Bool.eq_false_iff.mpr q)
  have a0 := h5 0 (by omega); have a1 := h5 1 (by omega); have a2 := h5 2 (by omega); have a3 := h5 3 (by omega); have a4 := h5 4 (by omega)
  have b0 := hn 0 (by omega); have b1 := hn 1 (by omega); have b2 := hn 2 (by omega); have b3 := hn 3 (by omega); have b4 := hn 4 (by omega)
  have c01 := hd 0 1 (by omega) (by omega); have c02 := hd 0 2 (by omega) (by omega); have c03 := hd 0 3 (by omega) (by omega); have c04 := hd 0 4 (by omega) (by omega)
  have c12 := hd 1 2 (by omega) (by omega); have c13 := hd 1 3 (by omega) (by omega); have c14 := hd 1 4 (by omega) (by omega)
  have c23 := hd 2 3 (by omega) (by omega); have c24 := hd 2 4 (by omega) (by omega); have c34 := hd 3 4 (by omega) (by omega)
  generalize o 0 = x0 at *; generalize o 1 = x1 at *; generalize o 2 = x2 at *; generalize o 3 = x3 at *; generalize o 4 = x4 at *
  omega
theorem names_both {g : Nat → Nat} {T : Nat} {v w : Nat → Int32} (t : tOK g T v) (t2 : tOK g T w) {N : Nat} (hN : 200000 ≤ N) {x : Nat} (hx : x < 6) : ∀ (f n a : Nat), n + f = 5 → a ≤ T → ∀ (o : Nat → Nat) (csi cor mor : Nat → Int32) (M M' : Nat), f < M → f < M' → (∀ j, j < n → o j < 5) → (∀ i j, i < j → j < n → o i ≠ o j) → csi x = nI n → (∀ j, j < n → cor (5 * x + j) = nI (o j)) → (∀ j, j < n → mor (5 * x + j) = nI (o j)) →
    ∃ (n' aC : Nat) (o' : Nat → Nat) (csi' cor' mor' : Nat → Int32) (z : Int32), n ≤ n' ∧ n' ≤ 5 ∧ aC ≤ T ∧ (n' = n → n < 5 → aC = sk g T a) ∧ (∀ j, j < n' → o' j < 5) ∧ (∀ i j, i < j → j < n' → o' i ≠ o' j) ∧
      lp (fun s : Int32 × Int32 × (Nat → Int32) × (Nat → Int32) => f_X4_readNames_B9 N (nI T) v (nI x) s.1 s.2.1 s.2.2.1 s.2.2.2) M (nI n, nI a, csi, cor) = some (nI aC, csi', cor') ∧
      lp (fun s : Int32 × Int32 × Int32 × (Nat → Int32) => f_X7_readOrder_B4 N (nI T) w (nI x) s.1 s.2.1 s.2.2.1 s.2.2.2) M' (nI (bs (seen o n) 5), nI n, nI a, mor) = some (z, nI n', nI (sk g T aC), mor') ∧
      csi' x = nI n' ∧ (∀ j, j < n' → cor' (5 * x + j) = nI (o' j)) ∧ (∀ j, j < n' → mor' (5 * x + j) = nI (o' j)) ∧ (∀ b, b ≠ x → csi' b = csi b) ∧ (∀ i, (i < 5 * x ∨ 5 * x + 5 ≤ i) → cor' i = cor i ∧ mor' i = mor i) := by
  have hT := t.1
  intro f
  induction f with
  | zero =>
    intro n a hn ha o csi cor mor M M' hM hM' h5 hd hs hc hm
    obtain ⟨M, rfl⟩ : ∃ k, M = k + 1 := ⟨M - 1, by omega⟩
    obtain ⟨M', rfl⟩ : ∃ k, M' = k + 1 := ⟨M' - 1, by omega⟩
    have hn5 : n = 5 := by omega
    subst hn5
    have hl := sk_le (g := g) ha
    have S2 := m_next t2 hN ha
    have S3 := m_next t2 hN hl.2
    rw [sk_sk ha] at S3
    refine ⟨5, a, o, csi, cor, mor, nI (bs (seen o 5) 5), Nat.le_refl _, Nat.le_refl _, ha, fun _ q => by omega, h5, hd, lp_stop ?_, lp_stop ?_, hs, hc, hm, fun _ _ => rfl, fun _ _ => ⟨rfl, rfl⟩⟩
    · simp (disch := omega) only [f_X4_readNames_B9, d_let, d_lef, d_ltt, d_ltf, d_eqt, d_eqf, ↓reduceIte, or_false, false_or, or_true, true_or, and_true, true_and, and_false, false_and, not_true_eq_false, not_false_eq_true, Bool.false_eq_true, Option.bind_some, q_ofNat, q_cl, q_lt, q_le, q_eq, nI_add, pk_mul, q_m1, q_m4, m1_lt, m1_le, m1_nlt, m1_nle, m1_ne, m1_ne2, m4_lt, m4_le, m4_nlt, m4_nle, m4_ne, m4_ne2, q_0, q_1, q_2, q_3, q_4, q_5, q_6, q_8, q_12, q_15, q_16, q_20, q_24, q_30, q_31, q_32, q_80, q_9, q_99, q_126, q_48, q_57, q_58, q_59, q_97, q_101, q_10, q_21, q_255, q_46656]
    · rcases chI_v t2 (sk g T a) with ⟨hp, hch, h32, h126⟩ | ⟨hp, hch⟩
      · rw [hch] at S2 S3
        by_cases r : 97 ≤ g (sk g T a) ∧ g (sk g T a) ≤ 101
        · have I := mi_97_101 (nI (g (sk g T a)))
          rw [if_pos (by rw [nI_toInt (by omega)]; omega)] at I
          have sn := five h5 hd (c := g (sk g T a) - 97) (by omega)
          have B := q_bit (x := bs (seen o 5) 5) (b := g (sk g T a) - 97) (by have := bs_lt (seen o 5) 5; omega) (by omega)
          rw [bs_bit, if_pos ⟨by omega, sn⟩] at B
          simp (disch := omega) only [f_X7_readOrder_B4, d_let, d_lef, d_ltt, d_ltf, d_eqt, d_eqf, ↓reduceIte, or_false, false_or, or_true, true_or, and_true, true_and, and_false, false_and, not_true_eq_false, not_false_eq_true, Bool.false_eq_true, Option.bind_some, q_ofNat, q_cl, q_lt, q_le, q_eq, nI_add, pk_mul, q_m1, q_m4, m1_lt, m1_le, m1_nlt, m1_nle, m1_ne, m1_ne2, m4_lt, m4_le, m4_nlt, m4_nle, m4_ne, m4_ne2, q_0, q_1, q_2, q_3, q_4, q_5, q_6, q_8, q_12, q_15, q_16, q_20, q_24, q_30, q_31, q_32, q_80, q_9, q_99, q_126, q_48, q_57, q_58, q_59, q_97, q_101, q_10, q_21, q_255, q_46656, S2, S3, I, q_sub, B]
        · have I := mi_97_101 (nI (g (sk g T a)))
          rw [if_neg (by rw [nI_toInt (by omega)]; omega)] at I
          simp (disch := omega) only [f_X7_readOrder_B4, d_let, d_lef, d_ltt, d_ltf, d_eqt, d_eqf, ↓reduceIte, or_false, false_or, or_true, true_or, and_true, true_and, and_false, false_and, not_true_eq_false, not_false_eq_true, Bool.false_eq_true, Option.bind_some, q_ofNat, q_cl, q_lt, q_le, q_eq, nI_add, pk_mul, q_m1, q_m4, m1_lt, m1_le, m1_nlt, m1_nle, m1_ne, m1_ne2, m4_lt, m4_le, m4_nlt, m4_nle, m4_ne, m4_ne2, q_0, q_1, q_2, q_3, q_4, q_5, q_6, q_8, q_12, q_15, q_16, q_20, q_24, q_30, q_31, q_32, q_80, q_9, q_99, q_126, q_48, q_57, q_58, q_59, q_97, q_101, q_10, q_21, q_255, q_46656, S2, I]
      · rw [hch] at S2
        have I := mi_97_101 m1
        rw [if_neg (by rw [m1_toInt]; omega)] at I
        simp (disch := omega) only [f_X7_readOrder_B4, d_let, d_lef, d_ltt, d_ltf, d_eqt, d_eqf, ↓reduceIte, or_false, false_or, or_true, true_or, and_true, true_and, and_false, false_and, not_true_eq_false, not_false_eq_true, Bool.false_eq_true, Option.bind_some, q_ofNat, q_cl, q_lt, q_le, q_eq, nI_add, pk_mul, q_m1, q_m4, m1_lt, m1_le, m1_nlt, m1_nle, m1_ne, m1_ne2, m4_lt, m4_le, m4_nlt, m4_nle, m4_ne, m4_ne2, q_0, q_1, q_2, q_3, q_4, q_5, q_6, q_8, q_12, q_15, q_16, q_20, q_24, q_30, q_31, q_32, q_80, q_9, q_99, q_126, q_48, q_57, q_58, q_59, q_97, q_101, q_10, q_21, q_255, q_46656, S2, I]
  | succ f ih =>
    intro n a hn ha o csi cor mor M M' hM hM' h5 hd hs hc hm
    obtain ⟨M, rfl⟩ : ∃ k, M = k + 1 := ⟨M - 1, by omega⟩
    obtain ⟨M', rfl⟩ : ∃ k, M' = k + 1 := ⟨M' - 1, by omega⟩
    have hl := sk_le (g := g) ha
    have S := x_sign t hN ha
    have S2 := m_next t2 hN ha
    have S3 := m_next t2 hN hl.2
    have SS := sk_sk (g := g) ha
    rw [SS] at S3
    have STOP : ∀ (hx1 : f_X4_readNames_B9 N (nI T) v (nI x) (nI n) (nI a) csi cor = some (.inr (nI (sk g T a), csi, cor))) (hm1 : f_X7_readOrder_B4 N (nI T) w (nI x) (nI (bs (seen o n) 5)) (nI n) (nI a) mor = some (.inr (nI (bs (seen o n) 5), nI n, nI (sk g T a), mor))), ∃ (n' aC : Nat) (o' : Nat → Nat) (csi' cor' mor' : Nat → Int32) (z : Int32), n ≤ n' ∧ n' ≤ 5 ∧ aC ≤ T ∧ (n' = n → n < 5 → aC = sk g T a) ∧ (∀ j, j < n' → o' j < 5) ∧ (∀ i j, i < j → j < n' → o' i ≠ o' j) ∧
      lp (fun s : Int32 × Int32 × (Nat → Int32) × (Nat → Int32) => f_X4_readNames_B9 N (nI T) v (nI x) s.1 s.2.1 s.2.2.1 s.2.2.2) (M + 1) (nI n, nI a, csi, cor) = some (nI aC, csi', cor') ∧
      lp (fun s : Int32 × Int32 × Int32 × (Nat → Int32) => f_X7_readOrder_B4 N (nI T) w (nI x) s.1 s.2.1 s.2.2.1 s.2.2.2) (M' + 1) (nI (bs (seen o n) 5), nI n, nI a, mor) = some (z, nI n', nI (sk g T aC), mor') ∧
      csi' x = nI n' ∧ (∀ j, j < n' → cor' (5 * x + j) = nI (o' j)) ∧ (∀ j, j < n' → mor' (5 * x + j) = nI (o' j)) ∧ (∀ b, b ≠ x → csi' b = csi b) ∧ (∀ i, (i < 5 * x ∨ 5 * x + 5 ≤ i) → cor' i = cor i ∧ mor' i = mor i) := by
      intro hx1 hm1
      refine ⟨n, sk g T a, o, csi, cor, mor, nI (bs (seen o n) 5), Nat.le_refl _, by omega, hl.2, fun _ _ => rfl, h5, hd, lp_stop hx1, lp_stop ?_, hs, hc, hm, fun _ _ => rfl, fun _ _ => ⟨rfl, rfl⟩⟩
      rw [SS]; exact hm1
    rcases chI_v t2 (sk g T a) with ⟨hp, hch, h32, h126⟩ | ⟨hp, hch⟩
    · rw [hch] at S S2 S3
      by_cases r : 97 ≤ g (sk g T a) ∧ g (sk g T a) ≤ 101
      · have I := mi_97_101 (nI (g (sk g T a)))
        rw [if_pos (by rw [nI_toInt (by omega)]; omega)] at I
        have P := x_placeR hN (vsi := csi) (vor := cor) (c := g (sk g T a) - 97) hx (by omega) hs (fun j hj => ⟨hc j hj, h5 j hj⟩) (by omega)
        have B := q_bit (x := bs (seen o n) 5) (b := g (sk g T a) - 97) (by have := bs_lt (seen o n) 5; omega) (by omega)
        by_cases sn : seen o n (g (sk g T a) - 97) = true
        · have sn' := of_decide_eq_true sn
          rw [if_pos sn'] at P
          rw [bs_bit, if_pos ⟨by omega, sn⟩] at B
          refine STOP ?_ ?_
          · simp (disch := omega) only [f_X4_readNames_B9, f_X6_isName, d_let, d_lef, d_ltt, d_ltf, d_eqt, d_eqf, ↓reduceIte, or_false, false_or, or_true, true_or, and_true, true_and, and_false, false_and, not_true_eq_false, not_false_eq_true, Bool.false_eq_true, Option.bind_some, q_ofNat, q_cl, q_lt, q_le, q_eq, nI_add, pk_mul, q_m1, q_m4, m1_lt, m1_le, m1_nlt, m1_nle, m1_ne, m1_ne2, m4_lt, m4_le, m4_nlt, m4_nle, m4_ne, m4_ne2, q_0, q_1, q_2, q_3, q_4, q_5, q_6, q_8, q_12, q_15, q_16, q_20, q_24, q_30, q_31, q_32, q_80, q_9, q_99, q_126, q_48, q_57, q_58, q_59, q_97, q_101, q_10, q_21, q_255, q_46656, S, q_sub, P]
          · simp (disch := omega) only [f_X7_readOrder_B4, d_let, d_lef, d_ltt, d_ltf, d_eqt, d_eqf, ↓reduceIte, or_false, false_or, or_true, true_or, and_true, true_and, and_false, false_and, not_true_eq_false, not_false_eq_true, Bool.false_eq_true, Option.bind_some, q_ofNat, q_cl, q_lt, q_le, q_eq, nI_add, pk_mul, q_m1, q_m4, m1_lt, m1_le, m1_nlt, m1_nle, m1_ne, m1_ne2, m4_lt, m4_le, m4_nlt, m4_nle, m4_ne, m4_ne2, q_0, q_1, q_2, q_3, q_4, q_5, q_6, q_8, q_12, q_15, q_16, q_20, q_24, q_30, q_31, q_32, q_80, q_9, q_99, q_126, q_48, q_57, q_58, q_59, q_97, q_101, q_10, q_21, q_255, q_46656, S2, S3, I, q_sub, B]
        · have sn2 := Bool.eq_false_iff.mpr sn
          have sn' := of_decide_eq_false sn2
          rw [if_neg sn'] at P
          rw [bs_bit, if_neg (fun q => sn q.2)] at B
          have hne := seen_f sn2
          generalize hcc : g (sk g T a) - 97 = c at *
          have hgc : g (sk g T a) = c + 97 := by omega
          obtain ⟨n', aC, o', csi', cor', mor', z, j1, j2, j3, j4, j5, j6, j7, j8, j9, j10, j11, j12, j13⟩ := ih (n + 1) (sk g T a + 1) (by omega) (by omega) (fun j => if j = n then c else o j) (upd csi x (nI (n + 1))) (upd cor (5 * x + n) (nI c)) (upd mor (5 * x + n) (nI c)) M M' (by omega) (by omega)
            (fun j hj => by show (if j = n then c else o j) < 5; split; omega; exact h5 j (by omega))
            (fun i j hij hj => by
              show (if i = n then c else o i) ≠ (if j = n then c else o j)
              rw [if_neg (by omega)]
              split
              · exact hne i (by omega)
              · exact hd i j hij (by omega))
            pk_us
            (fun j hj => by
              show upd cor (5 * x + n) (nI c) (5 * x + j) = nI (if j = n then c else o j)
              by_cases e : j = n
              · subst e; rw [pk_us, if_pos rfl]
              · rw [pk_un (by omega), if_neg e]; exact hc j (by omega))
            (fun j hj => by
              show upd mor (5 * x + n) (nI c) (5 * x + j) = nI (if j = n then c else o j)
              by_cases e : j = n
              · subst e; rw [pk_us, if_pos rfl]
              · rw [pk_un (by omega), if_neg e]; exact hm j (by omega))
          refine ⟨n', aC, o', csi', cor', mor', z, by omega, j2, j3, fun q => by omega, j5, j6, ?_, ?_, j9, j10, j11, fun b hb => (j12 b hb).trans (pk_un hb), fun i hi => ⟨(j13 i hi).1.trans (pk_un (by omega)), (j13 i hi).2.trans (pk_un (by omega))⟩⟩
          · rw [← j7]
            refine lp_step ?_
            simp (disch := omega) only [f_X4_readNames_B9, f_X6_isName, d_let, d_lef, d_ltt, d_ltf, d_eqt, d_eqf, ↓reduceIte, or_false, false_or, or_true, true_or, and_true, true_and, and_false, false_and, not_true_eq_false, not_false_eq_true, Bool.false_eq_true, Option.bind_some, q_ofNat, q_cl, q_lt, q_le, q_eq, nI_add, pk_mul, q_m1, q_m4, m1_lt, m1_le, m1_nlt, m1_nle, m1_ne, m1_ne2, m4_lt, m4_le, m4_nlt, m4_nle, m4_ne, m4_ne2, q_0, q_1, q_2, q_3, q_4, q_5, q_6, q_8, q_12, q_15, q_16, q_20, q_24, q_30, q_31, q_32, q_80, q_9, q_99, q_126, q_48, q_57, q_58, q_59, q_97, q_101, q_10, q_21, q_255, q_46656, S, hgc, q_sub, Nat.add_sub_cancel, P, Nat.mul_comm x 5]
          · rw [← j8]
            refine lp_step ?_
            have E : bs (seen (fun j => if j = n then c else o j) (n + 1)) 5 = bs (seen o n) 5 ||| 2 ^ c := by
              refine bs_ins (by omega) (fun k hk => ?_)
              by_cases e : k = c
              · rw [show decide (k = c) = true from decide_eq_true e, Bool.or_true]
                exact seen_i (j := n) (by omega) (by rw [if_pos rfl]; exact e.symm)
              · rw [show decide (k = c) = false from decide_eq_false e, Bool.or_false]
                by_cases sk' : seen o n k = true
                · obtain ⟨j, h1, h2⟩ := seen_t sk'
                  rw [sk']; exact seen_i (j := j) (by omega) (by rw [if_neg (by omega)]; exact h2)
                · rw [Bool.eq_false_iff.mpr sk']
                  refine Bool.eq_false_iff.mpr (fun q => ?_)
                  obtain ⟨j, h1, h2⟩ := seen_t q
                  by_cases e2 : j = n
                  · rw [if_pos e2] at h2; exact e h2.symm
                  · rw [if_neg e2] at h2; exact sk' (seen_i (by omega) h2)
            rw [E]
            have B' : nI (bs (seen o n) 5) >>> (nI c &&& nI 31) &&& nI 1 = nI 0 := B
            rw [hgc] at I
            simp (disch := omega) only [f_X7_readOrder_B4, d_let, d_lef, d_ltt, d_ltf, d_eqt, d_eqf, ↓reduceIte, or_false, false_or, or_true, true_or, and_true, true_and, and_false, false_and, not_true_eq_false, not_false_eq_true, Bool.false_eq_true, Option.bind_some, q_ofNat, q_cl, q_lt, q_le, q_eq, nI_add, pk_mul, q_m1, q_m4, m1_lt, m1_le, m1_nlt, m1_nle, m1_ne, m1_ne2, m4_lt, m4_le, m4_nlt, m4_nle, m4_ne, m4_ne2, q_0, q_1, q_2, q_3, q_4, q_5, q_6, q_8, q_12, q_15, q_16, q_20, q_24, q_30, q_31, q_32, q_80, q_9, q_99, q_126, q_48, q_57, q_58, q_59, q_97, q_101, q_10, q_21, q_255, q_46656, S2, S3, hgc, I, q_sub, Nat.add_sub_cancel, B', q_shl, q_or]
      · have I := mi_97_101 (nI (g (sk g T a)))
        rw [if_neg (by rw [nI_toInt (by omega)]; omega)] at I
        refine STOP ?_ ?_
        · have nn : f_X6_isName (nI (g (sk g T a)) - 97) = some (nI 0) := by
            have ey : (nI (g (sk g T a)) - nI 97).toInt = (g (sk g T a) : Int) - 97 := pk_sub_toInt (by omega) (by omega)
            rw [← q_97] at ey
            unfold f_X6_isName
            by_cases c : (g (sk g T a)) < 97
            · rw [if_pos (by rw [q_0, i_lt (by omega), ey]; omega)]; rfl
            · rw [if_neg (by rw [q_0, i_lt (by omega), ey]; omega), if_pos (by rw [q_5, i_ler (by omega), ey]; omega)]; rfl
          rw [q_97] at nn
          simp (disch := omega) only [f_X4_readNames_B9, d_let, d_lef, d_ltt, d_ltf, d_eqt, d_eqf, ↓reduceIte, or_false, false_or, or_true, true_or, and_true, true_and, and_false, false_and, not_true_eq_false, not_false_eq_true, Bool.false_eq_true, Option.bind_some, q_ofNat, q_cl, q_lt, q_le, q_eq, nI_add, pk_mul, q_m1, q_m4, m1_lt, m1_le, m1_nlt, m1_nle, m1_ne, m1_ne2, m4_lt, m4_le, m4_nlt, m4_nle, m4_ne, m4_ne2, q_0, q_1, q_2, q_3, q_4, q_5, q_6, q_8, q_12, q_15, q_16, q_20, q_24, q_30, q_31, q_32, q_80, q_9, q_99, q_126, q_48, q_57, q_58, q_59, q_97, q_101, q_10, q_21, q_255, q_46656, S, nn]
        · simp (disch := omega) only [f_X7_readOrder_B4, d_let, d_lef, d_ltt, d_ltf, d_eqt, d_eqf, ↓reduceIte, or_false, false_or, or_true, true_or, and_true, true_and, and_false, false_and, not_true_eq_false, not_false_eq_true, Bool.false_eq_true, Option.bind_some, q_ofNat, q_cl, q_lt, q_le, q_eq, nI_add, pk_mul, q_m1, q_m4, m1_lt, m1_le, m1_nlt, m1_nle, m1_ne, m1_ne2, m4_lt, m4_le, m4_nlt, m4_nle, m4_ne, m4_ne2, q_0, q_1, q_2, q_3, q_4, q_5, q_6, q_8, q_12, q_15, q_16, q_20, q_24, q_30, q_31, q_32, q_80, q_9, q_99, q_126, q_48, q_57, q_58, q_59, q_97, q_101, q_10, q_21, q_255, q_46656, S2, I]
    · rw [hch] at S S2
      have I := mi_97_101 m1
      rw [if_neg (by rw [m1_toInt]; omega)] at I
      refine STOP ?_ ?_
      · have nn : f_X6_isName (m1 - nI 97) = some (nI 0) := by decide
        simp (disch := omega) only [f_X4_readNames_B9, d_let, d_lef, d_ltt, d_ltf, d_eqt, d_eqf, ↓reduceIte, or_false, false_or, or_true, true_or, and_true, true_and, and_false, false_and, not_true_eq_false, not_false_eq_true, Bool.false_eq_true, Option.bind_some, q_ofNat, q_cl, q_lt, q_le, q_eq, nI_add, pk_mul, q_m1, q_m4, m1_lt, m1_le, m1_nlt, m1_nle, m1_ne, m1_ne2, m4_lt, m4_le, m4_nlt, m4_nle, m4_ne, m4_ne2, q_0, q_1, q_2, q_3, q_4, q_5, q_6, q_8, q_12, q_15, q_16, q_20, q_24, q_30, q_31, q_32, q_80, q_9, q_99, q_126, q_48, q_57, q_58, q_59, q_97, q_101, q_10, q_21, q_255, q_46656, S, nn]
      · simp (disch := omega) only [f_X7_readOrder_B4, d_let, d_lef, d_ltt, d_ltf, d_eqt, d_eqf, ↓reduceIte, or_false, false_or, or_true, true_or, and_true, true_and, and_false, false_and, not_true_eq_false, not_false_eq_true, Bool.false_eq_true, Option.bind_some, q_ofNat, q_cl, q_lt, q_le, q_eq, nI_add, pk_mul, q_m1, q_m4, m1_lt, m1_le, m1_nlt, m1_nle, m1_ne, m1_ne2, m4_lt, m4_le, m4_nlt, m4_nle, m4_ne, m4_ne2, q_0, q_1, q_2, q_3, q_4, q_5, q_6, q_8, q_12, q_15, q_16, q_20, q_24, q_30, q_31, q_32, q_80, q_9, q_99, q_126, q_48, q_57, q_58, q_59, q_97, q_101, q_10, q_21, q_255, q_46656, S2, I]
