-- the hall, by natural numbers: blocks, members, moves, digits, sizes, orders
abbrev Hl : Type := Nat × (Nat → Nat) × (Nat → Nat) × (Nat → Nat) × (Nat → Nat) × (Nat → Nat → Nat)
def hB (h : Hl) : Nat := h.1
def hMem (h : Hl) : Nat → Nat := h.2.1
def hMov (h : Hl) : Nat → Nat := h.2.2.1
def hDig (h : Hl) : Nat → Nat := h.2.2.2.1
def hSiz (h : Hl) : Nat → Nat := h.2.2.2.2.1
def hOrd (h : Hl) : Nat → Nat → Nat := h.2.2.2.2.2
-- bars (above, below), strikes, lots
abbrev Br : Type := (Nat → Nat) × (Nat → Nat) × (Nat → Nat) × (Nat → Nat)
def bAb (r : Br) : Nat → Nat := r.1
def bBe (r : Br) : Nat → Nat := r.2.1
def bSt (r : Br) : Nat → Nat := r.2.2.1
def bLo (r : Br) : Nat → Nat := r.2.2.2
def hOne (h : Hl) (b : Nat) : Prop := 1 ≤ hMem h b ∧ hMem h b ≤ 20 ∧ hMov h b ≤ 4 ∧ 1 ≤ hSiz h b ∧ hSiz h b ≤ 5 ∧ (∀ i, i < hSiz h b → hOrd h b i < 5) ∧ (∀ i j, i < j → j < hSiz h b → hOrd h b i ≠ hOrd h b j) ∧ (hMov h b = 3 → hDig h b < hB h) ∧ (hMov h b = 4 → 1 ≤ hDig h b ∧ hDig h b ≤ 3)
def hLots (h : Hl) (n : Nat) : Nat := sm (fun b => if hMov h b = 4 then 1 else 0) n
def hOK (h : Hl) : Prop := hB h ≤ 6 ∧ (∀ b, b < hB h → hOne h b) ∧ hLots h (hB h) ≤ 2
def bOK (r : Br) : Prop := (∀ d, d < 8 → 1 ≤ bAb r d ∧ bAb r d ≤ bBe r d ∧ bBe r d ≤ 12) ∧ (∀ k, k < 5 → bSt r k ≤ 32) ∧ (∀ i, i < 16 → bLo r i < 4)
-- the arrays say it
def tX (h : Hl) (vb : Int32) (vme vmo vdi vsi vor : Nat → Int32) : Prop := vb = nI (hB h) ∧ ∀ b, b < hB h → vme b = nI (hMem h b) ∧ vmo b = nI (hMov h b) ∧ (hMov h b = 3 ∨ hMov h b = 4 → vdi b = nI (hDig h b)) ∧ vsi b = nI (hSiz h b) ∧ ∀ i, i < hSiz h b → vor (5 * b + i) = nI (hOrd h b i)
def rX (r : Br) (vab vbe vst vlo : Nat → Int32) : Prop := (∀ d, d < 8 → vab d = nI (bAb r d) ∧ vbe d = nI (bBe r d)) ∧ (∀ k, k < 5 → vst k = nI (bSt r k)) ∧ (∀ i, i < 16 → vlo i = nI (bLo r i))
-- a written name as a code: 0 nothing, else the name and one
def wX (c : Nat) : Int32 := if c = 0 then m1 else nI (c - 1)
def wM (c : Nat) : Int32 := if c = 0 then m4 else nI (c - 1)
theorem wX_0 : wX 0 = m1 := rfl
theorem wM_0 : wM 0 = m4 := rfl
theorem wX_s (k : Nat) : wX (k + 1) = nI k := rfl
theorem wM_s (k : Nat) : wM (k + 1) = nI k := rfl
-- what is reckoned
def pl (h : Hl) (b k : Nat) : Nat := ff (fun i => decide (hOrd h b i = k)) 0 (hSiz h b)
def fa (h : Hl) (al : Nat → Bool) (b i : Nat) : Nat := if ff (fun j => al (hOrd h b j)) i (hSiz h b - i) < hSiz h b then hOrd h b (ff (fun j => al (hOrd h b j)) i (hSiz h b - i)) + 1 else 0
def leF (h : Hl) (al : Nat → Bool) (cnt : Nat → Nat) (b i best : Nat) : Nat := if al (hOrd h b i) = true ∧ (best = 0 ∨ cnt (best - 1) < cnt (hOrd h b i)) then hOrd h b i + 1 else best
def leS (h : Hl) (al : Nat → Bool) (cnt : Nat → Nat) (b : Nat) : Nat := it (leF h al cnt b) 0 (hSiz h b)
def laF (cnt : Nat → Nat) (k : Nat) (s : Nat × Nat) : Nat × Nat := if cnt k = 0 then s else (if s.1 = 0 ∨ cnt k < cnt (s.1 - 1) then k + 1 else s.1, s.2 + 1)
def laS (cnt : Nat → Nat) : Nat := if (it (laF cnt) (0, 0) 5).2 ≤ 1 then 0 else (it (laF cnt) (0, 0) 5).1
def cn (h : Hl) (c : Nat → Nat) (k : Nat) : Nat := sm (fun b => if c b = k + 1 then hMem h b else 0) (hB h)
def wiB (cnt : Nat → Nat) : Nat := it (fun j best => if cnt best < cnt (j + 1) then j + 1 else best) 0 4
def alS (h : Hl) : Nat := sm (hMem h) (hB h)
def neS (h : Hl) (r : Br) (d : Nat) : Nat := (alS h * bAb r d + bBe r d - 1) / bBe r d
def wiS (h : Hl) (r : Br) (cnt : Nat → Nat) (t : Nat) : Nat := if cnt (wiB cnt) < neS h r (t / 4) then 0 else wiB cnt + 1
def nxS (h : Hl) (al : Nat → Bool) (c : Nat → Nat) (last b : Nat) : Nat :=
  if c b = 0 then fa h al b 0
  else if al (c b - 1) = true ∧ c b ≠ last then c b
  else if fa h al b (pl h b (c b - 1) + 1) ≠ 0 then fa h al b (pl h b (c b - 1) + 1)
  else if al (c b - 1) = true then c b else fa h al b 0
def foS (h : Hl) (al : Nat → Bool) (c : Nat → Nat) (b : Nat) : Nat :=
  if c (hDig h b) ≠ 0 ∧ al (c (hDig h b) - 1) = true ∧ pl h b (c (hDig h b) - 1) < hSiz h b then c (hDig h b) else fa h al b 0
def moS (h : Hl) (al : Nat → Bool) (c cnt : Nat → Nat) (last : Nat) (lk : Bool) (b : Nat) : Nat :=
  if hMov h b = 1 then nxS h al c last b
  else if hMov h b = 2 then leS h al cnt b
  else if hMov h b = 3 then foS h al c b
  else if hMov h b = 4 then (if lk then leS h al cnt b else fa h al b 0)
  else fa h al b 0
-- how a block goes in a ballot: 0 it writes nothing, 1 as firm, 2 by its move
def stS (h : Hl) (al : Nat → Bool) (md : Nat → Nat) (lk : Nat → Bool) (c : Nat → Nat) (b : Nat) : Nat :=
  if b < hB h then (if md b = 0 then 0 else if md b = 1 then fa h al b 0 else moS h al c (cn h c) (laS (cn h c)) (lk b) b) else 0
def wOK (h : Hl) (c : Nat → Nat) : Prop := (∀ b, b < hB h → c b ≠ 0 → ∃ i, i < hSiz h b ∧ hOrd h b i + 1 = c b) ∧ ∀ b, hB h ≤ b → c b = 0
def aliv (r : Br) (t : Nat) : Nat → Bool := fun k => decide (t < bSt r k)
-- facts
theorem fa_ok {h : Hl} {al : Nat → Bool} {b i : Nat} (hi : i ≤ hSiz h b) : fa h al b i = 0 ∨ ∃ j, j < hSiz h b ∧ hOrd h b j + 1 = fa h al b i := by
  unfold fa
  split
  · exact Or.inr ⟨_, by assumption, rfl⟩
  · exact Or.inl rfl
theorem leS_ok {h : Hl} {al : Nat → Bool} {cnt : Nat → Nat} {b : Nat} : leS h al cnt b = 0 ∨ ∃ j, j < hSiz h b ∧ hOrd h b j + 1 = leS h al cnt b := by
  have : ∀ n, n ≤ hSiz h b → (it (leF h al cnt b) 0 n = 0 ∨ ∃ j, j < hSiz h b ∧ hOrd h b j + 1 = it (leF h al cnt b) 0 n) := by
    intro n
    induction n with
    | zero => intro _; exact Or.inl rfl
    | succ n ih =>
      intro hn
      show leF h al cnt b n (it (leF h al cnt b) 0 n) = 0 ∨ ∃ j, j < hSiz h b ∧ hOrd h b j + 1 = leF h al cnt b n (it (leF h al cnt b) 0 n)
      unfold leF
      split
      · exact Or.inr ⟨n, by omega, rfl⟩
      · exact ih (by omega)
  exact this _ (Nat.le_refl _)
theorem pl_in {h : Hl} {b k i : Nat} (hi : i < hSiz h b) (hk : hOrd h b i = k) : pl h b k < hSiz h b ∧ hOrd h b (pl h b k) = k := by
  have a := ff_le (fun i => decide (hOrd h b i = k)) (hSiz h b) 0
  by_cases hlt : pl h b k < hSiz h b
  · exact ⟨hlt, of_decide_eq_true (ff_yes (fun i => decide (hOrd h b i = k)) (hSiz h b) 0 (by simpa [pl] using hlt))⟩
  · have := ff_no (fun i => decide (hOrd h b i = k)) (hSiz h b) 0 i (by omega) (by unfold pl at hlt; omega)
    exact absurd hk (of_decide_eq_false this)
theorem pl_out {h : Hl} {b k : Nat} (hlt : pl h b k < hSiz h b) : hOrd h b (pl h b k) = k :=
  of_decide_eq_true (ff_yes (fun i => decide (hOrd h b i = k)) (hSiz h b) 0 (by simpa [pl] using hlt))
theorem pl_le (h : Hl) (b k : Nat) : pl h b k ≤ hSiz h b := by
  have a := ff_le (fun i => decide (hOrd h b i = k)) (hSiz h b) 0
  unfold pl; omega
theorem stS_ok {h : Hl} {al : Nat → Bool} {md : Nat → Nat} {lk : Nat → Bool} {c : Nat → Nat} (hc : wOK h c) : wOK h (stS h al md lk c) := by
  refine ⟨fun b hb hn => ?_, fun b hb => by unfold stS; rw [if_neg (by omega)]⟩
  have F : ∀ {x : Nat}, x ≠ 0 → (x = 0 ∨ ∃ j, j < hSiz h b ∧ hOrd h b j + 1 = x) → ∃ i, i < hSiz h b ∧ hOrd h b i + 1 = x := fun hx q => q.elim (fun e => absurd e hx) id
  refine F hn ?_
  have f0 : fa h al b 0 = 0 ∨ ∃ j, j < hSiz h b ∧ hOrd h b j + 1 = fa h al b 0 := fa_ok (by omega)
  unfold stS
  rw [if_pos hb]
  split
  · exact Or.inl rfl
  · split
    · exact f0
    · unfold moS
      split
      · unfold nxS
        split
        · exact f0
        · rename_i hne
          split
          · exact Or.inr (hc.1 b hb hne)
          · split
            · obtain ⟨i, h1, h2⟩ := hc.1 b hb hne
              have := pl_in (k := c b - 1) h1 (by omega)
              exact fa_ok (by omega)
            · split
              · exact Or.inr (hc.1 b hb hne)
              · exact f0
      · split
        · exact leS_ok
        · split
          · unfold foS
            split
            · rename_i hq
              exact Or.inr ⟨_, hq.2.2, by rw [pl_out hq.2.2]; omega⟩
            · exact f0
          · split
            · split
              · exact leS_ok
              · exact f0
            · exact f0
theorem wOK_lt {h : Hl} (ok : hOK h) {c : Nat → Nat} (hc : wOK h c) (b : Nat) : c b ≤ 5 := by
  by_cases hb : b < hB h
  · by_cases h0 : c b = 0
    · omega
    · obtain ⟨i, h1, h2⟩ := hc.1 b hb h0
      have := (ok.2.1 b hb).2.2.2.2.2.1 i h1
      omega
  · rw [hc.2 b (by omega)]; omega
theorem cn_le {h : Hl} (ok : hOK h) (c : Nat → Nat) (k : Nat) : cn h c k ≤ 120 := by
  have := sm_le (f := fun b => if c b = k + 1 then hMem h b else 0) (m := 20) (hB h) (fun b hb => by
    have := (ok.2.1 b hb).2.1
    split <;> omega)
  have := ok.1
  unfold cn; omega
theorem alS_le {h : Hl} (ok : hOK h) : alS h ≤ 120 := by
  have := sm_le (f := hMem h) (m := 20) (hB h) (fun b hb => (ok.2.1 b hb).2.1)
  have := ok.1
  unfold alS; omega
theorem laS_le (cnt : Nat → Nat) : laS cnt ≤ 5 := by
  have : ∀ n, n ≤ 5 → (it (laF cnt) (0, 0) n).1 ≤ n := by
    intro n
    induction n with
    | zero => intro _; exact Nat.le_refl _
    | succ n ih =>
      intro hn
      show (laF cnt n (it (laF cnt) (0, 0) n)).1 ≤ n + 1
      have := ih (by omega)
      generalize it (laF cnt) (0, 0) n = s at *
      unfold laF
      split
      · omega
      · dsimp only
        split <;> omega
  unfold laS
  split
  · omega
  · exact this 5 (Nat.le_refl _)
theorem wiB_le (cnt : Nat → Nat) : wiB cnt ≤ 4 := by
  have : ∀ n, n ≤ 4 → it (fun j best => if cnt best < cnt (j + 1) then j + 1 else best) 0 n ≤ n := by
    intro n
    induction n with
    | zero => intro _; exact Nat.le_refl _
    | succ n ih =>
      intro hn
      have := ih (by omega)
      unfold it
      split <;> omega
  exact this 4 (Nat.le_refl _)
