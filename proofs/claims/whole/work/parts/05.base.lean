-- ===== small facts on Option, loops =====
theorem ob {α β : Type} {x : Option α} {g : α → Option β} {r : β} (h : x.bind g = some r) : ∃ u, x = some u ∧ g u = some r := by
  cases x with
  | none => cases h
  | some u => exact ⟨u, rfl, h⟩
theorem og {α : Type} {c : Prop} [Decidable c] {a : Option α} {r : α} (h : (if c then none else a) = some r) : ¬ c ∧ a = some r := by
  by_cases hc : c
  · rw [if_pos hc] at h; cases h
  · rw [if_neg hc] at h; exact ⟨hc, h⟩
theorem ot {α : Type} {c : Prop} [Decidable c] {a b : Option α} {r : α} (h : (if c then a else b) = some r) (hc : c) : a = some r := by rw [if_pos hc] at h; exact h
theorem oe {α : Type} {c : Prop} [Decidable c] {a b : Option α} {r : α} (h : (if c then a else b) = some r) (hc : ¬ c) : b = some r := by rw [if_neg hc] at h; exact h
theorem oz {α β γ : Type} {x : Option (α ⊕ β)} {f : α → Option γ} {g : β → Option γ} {r : γ} (h : x.bind (Sum.elim f g) = some r) : ∃ u, x = some u ∧ (∀ a, u = .inl a → f a = some r) ∧ (∀ b, u = .inr b → g b = some r) := by
  cases x with
  | none => cases h
  | some u => exact ⟨u, rfl, fun a e => by subst e; exact h, fun b e => by subst e; exact h⟩
theorem osi {α : Type} {a b : α} (h : some a = some b) : a = b := Option.some.inj h
def lp {σ ρ : Type} (b : σ → Option (σ ⊕ ρ)) : Nat → σ → Option ρ
  | 0, _ => none
  | n + 1, s => match b s with
    | none => none
    | some (.inl s') => lp b n s'
    | some (.inr r) => some r
theorem lp_zero {σ ρ : Type} {b : σ → Option (σ ⊕ ρ)} {s : σ} {r : ρ} (h : lp b 0 s = some r) : False := by
  unfold lp at h; cases h
theorem lp_succ {σ ρ : Type} {b : σ → Option (σ ⊕ ρ)} {n : Nat} {s : σ} {r : ρ} (h : lp b (n + 1) s = some r) : ∃ o, b s = some o ∧ (∀ s', o = .inl s' → lp b n s' = some r) ∧ (∀ e, o = .inr e → e = r) := by
  unfold lp at h
  cases hb : b s with
  | none => rw [hb] at h; cases h
  | some o =>
    rw [hb] at h
    cases o with
    | inl s' => exact ⟨_, rfl, fun _ e => by cases e; exact h, fun _ e => by cases e⟩
    | inr e' => exact ⟨_, rfl, fun _ e => (by cases e), fun _ e => by cases e; exact Option.some.inj h⟩
-- ===== the room, the words, what is known of the tables =====
abbrev kR (h : Nat) : Room := { frames := h, cells := 0, slots := 0, locals := 40 * h }
abbrev kRa (h mc ms : Nat) : Room := { frames := h, cells := mc, slots := ms, locals := 40 * h }
abbrev classes : List vw_C := [(RX0, TX0, 8), (RX1, TX1, 5), (RX2, TX2, 3), (RX3, TX3, 4), (RX4, TX4, 5), (RX5, TX5, 10), (RX6, TX6, 10), (RX7, TX7, 44)]
abbrev kT (cI cJ cB : ClassId) : List (ClassId × FieldType) := [(cI, .int), (cJ, .long), (cB, .byte)]
def nestW : List Cond := [.methodLinkNest "SmokeHall" 11 ⟨"SmokeHall$Tape", "<init>", "()V"⟩ "SmokeHall", .methodLinkNest "SmokeHall" 48 ⟨"SmokeHall$Odds", "<init>", "()V"⟩ "SmokeHall", .methodLinkNest "SmokeHall$Course" 126 ⟨"SmokeHall", "isName", "(I)Z"⟩ "SmokeHall", .methodLinkNest "SmokeHall$Odds" 20 ⟨"SmokeHall$Spread", "<init>", "()V"⟩ "SmokeHall", .methodLinkNest "SmokeHall$Tape" 89 ⟨"SmokeHall", "isName", "(I)Z"⟩ "SmokeHall", .methodLinkNest "SmokeHall$Told" 71 ⟨"SmokeHall", "isDay", "(I)Z"⟩ "SmokeHall"]
def nestOK (U : State) : Prop := ∀ w ∈ nestW, va_Nw w U
theorem nest_shape : ∀ w ∈ nestW, ∃ a i x h, w = .methodLinkNest a i x h := by
  intro w hw
  simp only [nestW, List.mem_cons, List.not_mem_nil, or_false] at hw
  rcases hw with rfl | rfl | rfl | rfl | rfl | rfl <;> exact ⟨_, _, _, _, rfl⟩
theorem nest_warm {s U : State} (hW : s.WarmedH U.vm) (h : nestOK s) : nestOK U := by
  intro w hw
  obtain ⟨a, i, x, hh, rfl⟩ := nest_shape w hw
  exact va_Nw.warmM hW (h _ hw)
theorem nest_same {s U : State} (hv : s.vm = U.vm) (h : nestOK s) : nestOK U := by
  intro w hw
  obtain ⟨a, i, x, hh, rfl⟩ := nest_shape w hw
  exact va_Nw.same rfl hv (h _ hw)
def kk (D : va_G) (cI cJ cB : ClassId) (U : State) : Prop := va_K D classes (kT cI cJ cB) U ∧ nestOK U
theorem kk.warm {D : va_G} {cI cJ cB : ClassId} {s U : State} (hW : s.WarmedH U.vm) (h : kk D cI cJ cB s) : kk D cI cJ cB U := ⟨va_K.moved hW.alike h.1, nest_warm hW h.2⟩
theorem kk.call {D : va_G} {cI cJ cB : ClassId} {U : State} (g : JFrame) (mk : MethodId) (a : Array Value) (h : kk D cI cJ cB U) : kk D cI cJ cB (U.calling g mk a) := ⟨va_K.moved (u := U) (U := U.calling g mk a) (Vm.Alike.refl U.vm) h.1, nest_same (s := U) (U := U.calling g mk a) rfl h.2⟩
/-- a method's start: it only reads / it may write -/
def pR (D : va_G) (cI cJ cB : ClassId) (ws : va_W) : State → Prop := fun U => kk D cI cJ cB U ∧ va_P D classes ws U.heap
def pW (D : va_G) (cI cJ cB : ClassId) (ws : va_W) (sz : Nat) : State → Prop := fun U => U.heap.size = sz ∧ kk D cI cJ cB U ∧ va_P D classes ws U.heap ∧ va_D (fun _ => True) ws
theorem pR.blind {D : va_G} {cI cJ cB : ClassId} {ws : va_W} {av : List Value} : FrameBlind (va_Pc av (pR D cI cJ cB ws)) := fun a U g mk q => ⟨q.1, q.2.1.call g mk a, q.2.2⟩
theorem pW.blind {D : va_G} {cI cJ cB : ClassId} {ws : va_W} {sz : Nat} {av : List Value} : FrameBlind (va_Pc av (pW D cI cJ cB ws sz)) := fun a U g mk q => ⟨q.1, q.2.1, q.2.2.1.call g mk a, q.2.2.2.1, q.2.2.2.2⟩
/-- a writer's end -/
def qB (D : va_G) (A : Nat → Prop) : va_W → State → Prop := fun w t => va_P D classes w t.heap ∧ va_D A w
def qWi (r : Int32) (E : va_W → Prop) (D : va_G) (A : Nat → Prop) : Array Value → State → Outcome → State → Prop := va_Qi (fun v w => v = r ∧ E w) (qB D A) A
def qWl (r : Int64) (E : va_W → Prop) (D : va_G) (A : Nat → Prop) : Array Value → State → Outcome → State → Prop := va_Ql (fun v w => v = r ∧ E w) (qB D A) A
def qWv (E : va_W → Prop) (D : va_G) (A : Nat → Prop) : Array Value → State → Outcome → State → Prop := va_Qv E (qB D A) A
abbrev qRi (r : Int32) : Array Value → State → Outcome → State → Prop := vp_Si (fun v => v = r)
abbrev qRl (r : Int64) : Array Value → State → Outcome → State → Prop := vp_Sl (fun v => v = r)
theorem G_good : ∀ w ∈ wsL_law, (w.onTables && w.keeps) = true ∨ ∃ ty, w = .arrayClass ty := fun w h => good_of_word (List.all_eq_true.mp (show wsL_law.all goodWord = true by decide +kernel) w h)
theorem gIn {k : Cond} {ws : List Cond} (h : ∀ w ∈ ws, w ∈ wsL_law) : GoodIn (k :: wsL_law) ws := fun w hw => ⟨List.mem_cons_of_mem _ (h w hw), G_good w (h w hw)⟩
theorem gC {k c : Cond} (h : c ∈ wsL_law) : GoodIn (k :: wsL_law) (c :: wsL_law) := gIn fun w hw => (List.mem_cons.mp hw).elim (fun e => e ▸ h) id
theorem gV {k c : Cond} {own C : String} {idx : Nat} {y : MethodName} (h : c ∈ wsL_law) (h1 : .methodLink own idx y ∈ wsL_law) (h2 : .instanceMethod y ∈ wsL_law) (h3 : .selects C y y ∈ wsL_law) (h4 : .initialized C ∈ wsL_law) : GoodIn (k :: wsL_law) (wsV own idx C y (c :: wsL_law)) := by
  refine gIn fun w hw => ?_
  simp only [wsV, List.cons_append, List.nil_append, List.mem_cons] at hw
  rcases hw with rfl | rfl | rfl | rfl | rfl | hw
  · exact h1
  · exact h2
  · exact h3
  · exact h4
  · exact h
  · exact hw
theorem gS {k c : Cond} {own : String} {idx : Nat} {y : MethodName} (h : c ∈ wsL_law) (h1 : .methodLink own idx y ∈ wsL_law) (h2 : .static y ∈ wsL_law) (h4 : .initialized y.cls ∈ wsL_law) : GoodIn (k :: wsL_law) (va_wsS own idx y (c :: wsL_law)) := by
  refine gIn fun w hw => ?_
  simp only [va_wsS, List.cons_append, List.nil_append, List.mem_cons] at hw
  rcases hw with rfl | rfl | rfl | rfl | hw
  · exact h1
  · exact h2
  · exact h4
  · exact h
  · exact hw
-- ===== a method's entry =====
section KE
variable {l : Launch} {y : MethodName} {cc : ByteArray} {n : Nat} {ret : Option FieldType} {rm : Room} {D : va_G} {cI cJ cB : ClassId} {av : List Value} {ws : va_W} {sz mc ms : Nat}
theorem k_ro {Qc : Array Value → State → Outcome → State → Prop} (hy : plainName y.cls = true) (hn : (lg_sl av).length ≤ n)
    (body : ∀ (p : Program) (e : Env) (s : State) (m : MethodId) (args : Array Value) (below : List Frame) (meth : Method) (c : Code) (ls : Array Slot), p.tables.exec = Jvm.exec → c.code = cc → meth.sig.returnType = ret → c.maxLocals = n → (∀ w ∈ Cond.code y cc n ret :: wsL_law, w.before args s = true) → s.vm.findClass y.cls = some m.cls → meth.locks = false → kk D cI cJ cB s → va_P D classes ws s.heap → lv_has ls n (lv_args 0 av) →
      W p l e rm s m args below meth c s.heap [] 0 0 (MQ below Qc args s 0 0 (fun _ => False)) (F0 m 0 ls [])) :
    Met l y (Cond.code y cc n ret :: wsL_law) rm (va_Pc av (pR D cI cJ cB ws)) Qc 0 0 (fun _ => False) := by
  refine Met.ofW (cc := cc) (maxL := n) (ret := ret) hy rfl ?_
  intro p e s m args below meth c s₁ B hml hv
  obtain ⟨ha, hK, hP⟩ := hv
  have hl := lv_entry av (n := n) hn
  have he : entryFrame m args n = F0 m 0 ((lg_sl av ++ List.replicate (n - (lg_sl av).length) Slot.unset).toArray) [] := by rw [ha]; exact lg_entry_eq m av n
  rw [he]
  exact body p e s m args below meth c _ B.exec B.bytes B.returns hml (atoms_spec (ws := Cond.code y cc n ret :: wsL_law) B.pre) (findClass_of_methodNamed B.named) B.notSynchronized hK hP hl
theorem k_wr {Qc : (Nat → Prop) → Array Value → State → Outcome → State → Prop} (hy : plainName y.cls = true) (hn : (lg_sl av).length ≤ n)
    (body : ∀ (p : Program) (e : Env) (s : State) (m : MethodId) (args : Array Value) (below : List Frame) (meth : Method) (c : Code) (ls : Array Slot) (A : Nat → Prop), p.tables.exec = Jvm.exec → c.code = cc → meth.sig.returnType = ret → c.maxLocals = n → (∀ w ∈ Cond.code y cc n ret :: wsL_law, w.before args s = true) → s.vm.findClass y.cls = some m.cls → meth.locks = false → meth.name = y.name → (∀ q : Nat, s.heap.size ≤ q → A q) → kk D cI cJ cB s → va_P D classes ws s.heap → va_D A ws → va_S A s.heap s.heap [] → lv_has ls n (lv_args 0 av) →
      W p l e rm s m args below meth c s.heap [] 0 0 (MQ below (Qc A) args s mc ms A) (F0 m 0 ls [])) :
    Met l y (Cond.code y cc n ret :: wsL_law) rm (va_Pc av (pW D cI cJ cB ws sz)) (Qc (va_A ws sz)) mc ms (va_A ws sz) := by
  refine Met.ofW (cc := cc) (maxL := n) (ret := ret) hy rfl ?_
  intro p e s m args below meth c s₁ B hml hv
  obtain ⟨ha, hsz, hK, hP, hD⟩ := hv
  subst hsz
  have hl := lv_entry av (n := n) hn
  have he : entryFrame m args n = F0 m 0 ((lg_sl av ++ List.replicate (n - (lg_sl av).length) Slot.unset).toArray) [] := by rw [ha]; exact lg_entry_eq m av n
  rw [he]
  exact body p e s m args below meth c _ (va_A ws s.heap.size) B.exec B.bytes B.returns hml (atoms_spec (ws := Cond.code y cc n ret :: wsL_law) B.pre) (findClass_of_methodNamed B.named) B.notSynchronized (name_of_methodNamed B.named B.method).1 (fun q h => Or.inr h) hK hP hD.self va_S.rf hl
end KE
-- ===== returns =====
section KX
variable {p : Program} {l : Launch} {e : Env} {R : Room} {s : State} {m : MethodId} {args : Array Value} {below : List Frame} {meth : Method} {c : Code} {H : Heap} {locs : List Loc} {cells slots : Nat} {Q : State → Prop} {cc : ByteArray} {pc : Nat} {ls : Array Slot} {D : va_G} {cI cJ cB : ClassId} {A : Nat → Prop}
theorem x_iR {v r : Int32} (hx : p.tables.exec = Jvm.exec) (hb : c.code = cc) (hr : meth.sig.returnType = some .int) (hlocks : meth.locks = false) (hv : v = r) (hdg : decode cc pc = .ok (.ireturn, 1)) : W p l e R s m args below meth c s.heap [] 0 0 (MQ below (qRi r) args s 0 0 (fun _ => False)) (F0 m pc ls [.int v]) :=
  W.iret hx hb hr (fun t ht _ => ⟨v, rfl, hv, ht⟩) (fun q h => by cases h) hdg hlocks
theorem x_zR {v r : Int32} (hx : p.tables.exec = Jvm.exec) (hb : c.code = cc) (hr : meth.sig.returnType = some .boolean) (hlocks : meth.locks = false) (hn : narrow .boolean (.int v) = .int v) (hv : v = r) (hdg : decode cc pc = .ok (.ireturn, 1)) : W p l e R s m args below meth c s.heap [] 0 0 (MQ below (qRi r) args s 0 0 (fun _ => False)) (F0 m pc ls [.int v]) :=
  W.zret hx hb hr hn (fun t ht _ => ⟨v, rfl, hv, ht⟩) (fun q h => by cases h) hdg hlocks
theorem x_lR {v r : Int64} (hx : p.tables.exec = Jvm.exec) (hb : c.code = cc) (hr : meth.sig.returnType = some .long) (hlocks : meth.locks = false) (hv : v = r) (hdg : decode cc pc = .ok (.lreturn, 1)) : W p l e R s m args below meth c s.heap [] 0 0 (MQ below (qRl r) args s 0 0 (fun _ => False)) (F0 m pc ls [.long v]) :=
  W.lret hx hb hr (fun t ht _ => ⟨v, rfl, hv, ht⟩) (fun q h => by cases h) hdg hlocks
theorem x_iW {v r : Int32} {E : va_W → Prop} {w : va_W} (hx : p.tables.exec = Jvm.exec) (hb : c.code = cc) (hr : meth.sig.returnType = some .int) (hlocks : meth.locks = false) (hP : va_P D classes w H) (hD : va_D A w) (hS : va_S A s.heap H locs) (hE : E w) (hv : v = r) (hdg : decode cc pc = .ok (.ireturn, 1)) : W p l e R s m args below meth c H locs cells slots (MQ below (qWi r E D A) args s cells slots A) (F0 m pc ls [.int v]) :=
  W.iret hx hb hr (fun t ht _ => ⟨⟨v, w, rfl, ⟨hv, hE⟩, by rw [ht]; exact hP, hD⟩, hS.F ht⟩) hS.2.2 hdg hlocks
theorem x_zW {v r : Int32} {E : va_W → Prop} {w : va_W} (hx : p.tables.exec = Jvm.exec) (hb : c.code = cc) (hr : meth.sig.returnType = some .boolean) (hlocks : meth.locks = false) (hn : narrow .boolean (.int v) = .int v) (hP : va_P D classes w H) (hD : va_D A w) (hS : va_S A s.heap H locs) (hE : E w) (hv : v = r) (hdg : decode cc pc = .ok (.ireturn, 1)) : W p l e R s m args below meth c H locs cells slots (MQ below (qWi r E D A) args s cells slots A) (F0 m pc ls [.int v]) :=
  W.zret hx hb hr hn (fun t ht _ => ⟨⟨v, w, rfl, ⟨hv, hE⟩, by rw [ht]; exact hP, hD⟩, hS.F ht⟩) hS.2.2 hdg hlocks
theorem x_lW {v r : Int64} {E : va_W → Prop} {w : va_W} (hx : p.tables.exec = Jvm.exec) (hb : c.code = cc) (hr : meth.sig.returnType = some .long) (hlocks : meth.locks = false) (hP : va_P D classes w H) (hD : va_D A w) (hS : va_S A s.heap H locs) (hE : E w) (hv : v = r) (hdg : decode cc pc = .ok (.lreturn, 1)) : W p l e R s m args below meth c H locs cells slots (MQ below (qWl r E D A) args s cells slots A) (F0 m pc ls [.long v]) :=
  W.lret hx hb hr (fun t ht _ => ⟨⟨v, w, rfl, ⟨hv, hE⟩, by rw [ht]; exact hP, hD⟩, hS.F ht⟩) hS.2.2 hdg hlocks
theorem x_vW {E : va_W → Prop} {w : va_W} (hx : p.tables.exec = Jvm.exec) (hb : c.code = cc) (hr : meth.sig.returnType = none) (hlocks : meth.locks = false) (hP : va_P D classes w H) (hD : va_D A w) (hS : va_S A s.heap H locs) (hE : E w) (hdg : decode cc pc = .ok (.return_, 1)) : W p l e R s m args below meth c H locs cells slots (MQ below (qWv E D A) args s cells slots A) (F0 m pc ls []) :=
  W.vret hx hb hr (fun t ht _ => ⟨⟨w, rfl, hE, by rw [ht]; exact hP, hD⟩, hS.F ht⟩) hS.2.2 hdg hlocks
end KX
-- ===== calls =====
section KC
variable {p : Program} {l : Launch} {e : Env} {R : Room} {s : State} {m : MethodId} {args : Array Value} {below : List Frame} {meth : Method} {c : Code} {H : Heap} {locs : List Loc} {cells slots : Nat} {Q : State → Prop} {cc bytes : ByteArray} {pc nL maxL index n : Nat} {ls : Array Slot} {D : va_G} {cI cJ cB : ClassId} {A : Nat → Prop} {Ts : List Cond} {own C host : String} {y : MethodName} {ret : Option FieldType} {rm : Room} {ws wc wr : va_W} {b : Nat} {As rest st0 : List Value} {mc ms : Nat}
theorem k_Vi {r : Int32} (F : CallFix p m c cc nL s args Ts own) (hK : kk D cI cJ cB s) (hP : va_P D classes ws H) (is : List Nat) (hs : is.filterMap (fun i => ws[i]?) = wc)
    (hM : Met l y (Cond.code y bytes maxL ret :: wsL_law) rm (va_Pc (.ref b :: As) (pR D cI cJ cB wc)) (qRi r) 0 0 (fun _ => False)) (cw : CallW R s args own C index y bytes maxL ret (Cond.code y bytes maxL ret :: wsL_law) rm 0 0 n)
    (q0 ci : Nat) {q : vw_C} {fs : List Value} (hc : classes[ci]? = some q) (he : ws[q0]? = some (b, .inr (ci, fs))) (hqC : q.1 = C) (hn : As.length = n) (hls : ls.size = nL) (hst : st0 = As.reverse ++ .ref b :: rest) (hrm : (rest.map fun v => v.category).sum ≤ 8) (hdg : decode cc pc = .ok (.invokevirtual index, 3)) (hcs : cells ≤ R.cells ∧ slots ≤ R.slots)
    (k : W p l e R s m args below meth c H locs cells slots Q (F0 m (pc + 3) ls (.int r :: rest))) : W p l e R s m args below meth c H locs cells slots Q (F0 m pc ls st0) := by
  subst hqC
  refine vp_callSi (W.runV F hM cw ⟨pR.blind, va_recv hK.1 hP hc he, fun U hU hW => ⟨rfl, hK.warm hW, by rw [hU]; exact hP.sub is hs⟩⟩ rfl hn hls hst (lv_room hrm) hdg hcs) (fun v hv => ?_)
  subst hv
  exact k
theorem k_Vl {r : Int64} (F : CallFix p m c cc nL s args Ts own) (hK : kk D cI cJ cB s) (hP : va_P D classes ws H) (is : List Nat) (hs : is.filterMap (fun i => ws[i]?) = wc)
    (hM : Met l y (Cond.code y bytes maxL ret :: wsL_law) rm (va_Pc (.ref b :: As) (pR D cI cJ cB wc)) (qRl r) 0 0 (fun _ => False)) (cw : CallW R s args own C index y bytes maxL ret (Cond.code y bytes maxL ret :: wsL_law) rm 0 0 n)
    (q0 ci : Nat) {q : vw_C} {fs : List Value} (hc : classes[ci]? = some q) (he : ws[q0]? = some (b, .inr (ci, fs))) (hqC : q.1 = C) (hn : As.length = n) (hls : ls.size = nL) (hst : st0 = As.reverse ++ .ref b :: rest) (hrm : (rest.map fun v => v.category).sum ≤ 8) (hdg : decode cc pc = .ok (.invokevirtual index, 3)) (hcs : cells ≤ R.cells ∧ slots ≤ R.slots)
    (k : W p l e R s m args below meth c H locs cells slots Q (F0 m (pc + 3) ls (.long r :: rest))) : W p l e R s m args below meth c H locs cells slots Q (F0 m pc ls st0) := by
  subst hqC
  refine vp_callSl (W.runV F hM cw ⟨pR.blind, va_recv hK.1 hP hc he, fun U hU hW => ⟨rfl, hK.warm hW, by rw [hU]; exact hP.sub is hs⟩⟩ rfl hn hls hst (lv_room hrm) hdg hcs) (fun v hv => ?_)
  subst hv
  exact k
end KC
