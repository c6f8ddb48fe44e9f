section KF
variable {p : Program} {l : Launch} {e : Env} {R : Room} {s : State} {m : MethodId} {args : Array Value} {below : List Frame} {meth : Method} {c : Code} {H H0 : Heap} {locs : List Loc} {cells slots : Nat} {Q : State → Prop} {cc : ByteArray} {pc : Nat} {ls : Array Slot} {D : va_G} {A : Nat → Prop} {rest : List Value} {ws : va_W} {a : Nat} {cl : List vw_C} {tys : List (ClassId × FieldType)}
theorem p_get {own C : String} {T : u_T} {N ci index : Nat} {Ts : List Cond} {fd : String × String × String × Bool} (k : Nat) (hT : T k = fd) (hx : p.tables.exec = Jvm.exec) (hb : c.code = cc) (hts : ∀ w ∈ Ts, w.before args s = true) (hin : ∀ w ∈ u_ws C T N, w ∈ Ts) (hown : s.vm.findClass own = some m.cls) (hK : va_K D cl tys s) (hP : va_P D cl ws H) (q0 : Nat) {fs : List Value} (he : ws[q0]? = some (a, .inr (ci, fs))) (hc : cl[ci]? = some (C, T, N)) (hk : k < N) (hlink : (Cond.fieldLink own index fd.1 fd.2.1 fd.2.2.1).before args s = true) {v : Value} (hv : fs[k]? = some v) (hdg : decode cc pc = .ok (.getfield index, 3))
    (kk : W p l e R s m args below meth c H locs cells slots Q (F0 m (pc + 3) ls (v :: rest))) : W p l e R s m args below meth c H locs cells slots Q (F0 m pc ls (.ref a :: rest)) := by
  subst hT
  exact va_get hx hb hts hin hown hK hP q0 he hc k hk hlink (fun _ h => h) hv hdg kk
theorem p_put {own C : String} {T : u_T} {N ci index : Nat} {Ts : List Cond} {fd : String × String × String × Bool} (k : Nat) (hT : T k = fd) (hx : p.tables.exec = Jvm.exec) (hb : c.code = cc) (hts : ∀ w ∈ Ts, w.before args s = true) (hin : ∀ w ∈ u_ws C T N, w ∈ Ts) (ty0 : Nat → FieldType) (hty : ∀ k, k < N → parseFieldDescriptor (T k).2.2.1 = some (ty0 k)) (hnm : ∀ a, a < N → ∀ b, b < N → a ≠ b → (T a).2.1 ≠ (T b).2.1) (hown : s.vm.findClass own = some m.cls) (hK : va_K D cl tys s) (hP : va_P D cl ws H) (hD : va_D A ws) (hS0 : va_S A H0 H locs) (q0 : Nat) {fs : List Value} (he : ws[q0]? = some (a, .inr (ci, fs))) (hc : cl[ci]? = some (C, T, N)) (hk : k < N) (hlink : (Cond.fieldLink own index fd.1 fd.2.1 fd.2.2.1).before args s = true) (hfin : fd.2.2.2 = false) {ty : FieldType} {v : Value} (hd : parseFieldDescriptor fd.2.2.1 = some ty) (hn : narrow ty v = v) (hfit : fits ty v = true) (hl : k < fs.length)
    (hdg : decode cc pc = .ok (.putfield index, 3)) (kk : ∀ (H1 : Heap) (locs1 : List Loc), va_P D cl (ws.set q0 (a, .inr (ci, fs.set k v))) H1 → va_D A (ws.set q0 (a, .inr (ci, fs.set k v))) → va_S A H0 H1 locs1 → W p l e R s m args below meth c H1 locs1 cells slots Q (F0 m (pc + 3) ls rest)) : W p l e R s m args below meth c H locs cells slots Q (F0 m pc ls (v :: .ref a :: rest)) := by
  subst hT
  exact va_put hx hb hts hin ty0 hty hnm hown hK hP hD hS0 q0 he hc k hk hlink (fun _ h => h) hfin hd hn hfit hl hdg kk
end KF
theorem fX0_0 : TX0 0 = ("SmokeHall$Course", "ballots", "I", false) := by decide +kernel
theorem fX0_1 : TX0 1 = ("SmokeHall$Course", "used", "I", false) := by decide +kernel
theorem fX0_2 : TX0 2 = ("SmokeHall$Course", "chosen", "I", false) := by decide +kernel
theorem fX0_3 : TX0 3 = ("SmokeHall$Course", "waiter", "I", false) := by decide +kernel
theorem fX0_4 : TX0 4 = ("SmokeHall$Course", "wait", "I", false) := by decide +kernel
theorem fX0_5 : TX0 5 = ("SmokeHall$Course", "wrote", "[I", true) := by decide +kernel
theorem fX0_6 : TX0 6 = ("SmokeHall$Course", "writes", "[I", true) := by decide +kernel
theorem fX0_7 : TX0 7 = ("SmokeHall$Course", "counts", "[I", true) := by decide +kernel
theorem fX1_0 : TX1 0 = ("SmokeHall$Odds", "above", "J", false) := by decide +kernel
theorem fX1_1 : TX1 1 = ("SmokeHall$Odds", "below", "J", false) := by decide +kernel
theorem fX1_2 : TX1 2 = ("SmokeHall$Odds", "now", "LSmokeHall$Spread;", false) := by decide +kernel
theorem fX1_3 : TX1 3 = ("SmokeHall$Odds", "then", "LSmokeHall$Spread;", false) := by decide +kernel
theorem fX1_4 : TX1 4 = ("SmokeHall$Odds", "trial", "LSmokeHall$Course;", true) := by decide +kernel
theorem fX2_0 : TX2 0 = ("SmokeHall$Sheets", "lanes", "[I", true) := by decide +kernel
theorem fX2_1 : TX2 1 = ("SmokeHall$Sheets", "sizes", "[I", true) := by decide +kernel
theorem fX2_2 : TX2 2 = ("SmokeHall$Sheets", "items", "[I", true) := by decide +kernel
theorem fX3_0 : TX3 0 = ("SmokeHall$Spread", "size", "I", false) := by decide +kernel
theorem fX3_1 : TX3 1 = ("SmokeHall$Spread", "states", "[I", false) := by decide +kernel
theorem fX3_2 : TX3 2 = ("SmokeHall$Spread", "weights", "[J", false) := by decide +kernel
theorem fX3_3 : TX3 3 = ("SmokeHall$Spread", "slots", "[I", false) := by decide +kernel
theorem fX4_0 : TX4 0 = ("SmokeHall$Tape", "bytes", "[B", true) := by decide +kernel
theorem fX4_1 : TX4 1 = ("SmokeHall$Tape", "length", "I", false) := by decide +kernel
theorem fX4_2 : TX4 2 = ("SmokeHall$Tape", "at", "I", false) := by decide +kernel
theorem fX4_3 : TX4 3 = ("SmokeHall$Tape", "lotBlocks", "I", false) := by decide +kernel
theorem fX4_4 : TX4 4 = ("SmokeHall$Tape", "digitPlaces", "[I", true) := by decide +kernel
theorem fX5_0 : TX5 0 = ("SmokeHall$Told", "blocks", "I", false) := by decide +kernel
theorem fX5_1 : TX5 1 = ("SmokeHall$Told", "members", "[I", true) := by decide +kernel
theorem fX5_2 : TX5 2 = ("SmokeHall$Told", "moves", "[I", true) := by decide +kernel
theorem fX5_3 : TX5 3 = ("SmokeHall$Told", "digits", "[I", true) := by decide +kernel
theorem fX5_4 : TX5 4 = ("SmokeHall$Told", "sizes", "[I", true) := by decide +kernel
theorem fX5_5 : TX5 5 = ("SmokeHall$Told", "orders", "[I", true) := by decide +kernel
theorem fX5_6 : TX5 6 = ("SmokeHall$Told", "above", "[I", true) := by decide +kernel
theorem fX5_7 : TX5 7 = ("SmokeHall$Told", "below", "[I", true) := by decide +kernel
theorem fX5_8 : TX5 8 = ("SmokeHall$Told", "struck", "[I", true) := by decide +kernel
theorem fX5_9 : TX5 9 = ("SmokeHall$Told", "lots", "[I", true) := by decide +kernel
theorem fX6_0 : TX6 0 = ("SmokeHall", "tape", "LSmokeHall$Tape;", true) := by decide +kernel
theorem fX6_1 : TX6 1 = ("SmokeHall", "told", "LSmokeHall$Told;", true) := by decide +kernel
theorem fX6_2 : TX6 2 = ("SmokeHall", "course", "LSmokeHall$Course;", true) := by decide +kernel
theorem fX6_3 : TX6 3 = ("SmokeHall", "keptTold", "LSmokeHall$Told;", true) := by decide +kernel
theorem fX6_4 : TX6 4 = ("SmokeHall", "keptCourse", "LSmokeHall$Course;", true) := by decide +kernel
theorem fX6_5 : TX6 5 = ("SmokeHall", "kept", "Z", false) := by decide +kernel
theorem fX6_6 : TX6 6 = ("SmokeHall", "trialTold", "LSmokeHall$Told;", true) := by decide +kernel
theorem fX6_7 : TX6 7 = ("SmokeHall", "trial", "LSmokeHall$Course;", true) := by decide +kernel
theorem fX6_8 : TX6 8 = ("SmokeHall", "odds", "LSmokeHall$Odds;", true) := by decide +kernel
theorem fX6_9 : TX6 9 = ("SmokeHall", "sheets", "LSmokeHall$Sheets;", true) := by decide +kernel
theorem fX7_0 : TX7 0 = ("SmokeHallModel", "blocks", "I", false) := by decide +kernel
theorem fX7_1 : TX7 1 = ("SmokeHallModel", "members", "[I", true) := by decide +kernel
theorem fX7_2 : TX7 2 = ("SmokeHallModel", "moves", "[I", true) := by decide +kernel
theorem fX7_3 : TX7 3 = ("SmokeHallModel", "digits", "[I", true) := by decide +kernel
theorem fX7_4 : TX7 4 = ("SmokeHallModel", "sizes", "[I", true) := by decide +kernel
theorem fX7_5 : TX7 5 = ("SmokeHallModel", "orders", "[I", true) := by decide +kernel
theorem fX7_6 : TX7 6 = ("SmokeHallModel", "above", "[I", true) := by decide +kernel
theorem fX7_7 : TX7 7 = ("SmokeHallModel", "below", "[I", true) := by decide +kernel
theorem fX7_8 : TX7 8 = ("SmokeHallModel", "struck", "[I", true) := by decide +kernel
theorem fX7_9 : TX7 9 = ("SmokeHallModel", "lotted", "[I", true) := by decide +kernel
theorem fX7_10 : TX7 10 = ("SmokeHallModel", "wrote", "[I", true) := by decide +kernel
theorem fX7_11 : TX7 11 = ("SmokeHallModel", "done", "I", false) := by decide +kernel
theorem fX7_12 : TX7 12 = ("SmokeHallModel", "used", "I", false) := by decide +kernel
theorem fX7_13 : TX7 13 = ("SmokeHallModel", "taken", "I", false) := by decide +kernel
theorem fX7_14 : TX7 14 = ("SmokeHallModel", "tape", "[I", true) := by decide +kernel
theorem fX7_15 : TX7 15 = ("SmokeHallModel", "taped", "I", false) := by decide +kernel
theorem fX7_16 : TX7 16 = ("SmokeHallModel", "at", "I", false) := by decide +kernel
theorem fX7_17 : TX7 17 = ("SmokeHallModel", "readBlocks", "I", false) := by decide +kernel
theorem fX7_18 : TX7 18 = ("SmokeHallModel", "readMembers", "[I", true) := by decide +kernel
theorem fX7_19 : TX7 19 = ("SmokeHallModel", "readMoves", "[I", true) := by decide +kernel
theorem fX7_20 : TX7 20 = ("SmokeHallModel", "readDigits", "[I", true) := by decide +kernel
theorem fX7_21 : TX7 21 = ("SmokeHallModel", "readSizes", "[I", true) := by decide +kernel
theorem fX7_22 : TX7 22 = ("SmokeHallModel", "readOrders", "[I", true) := by decide +kernel
theorem fX7_23 : TX7 23 = ("SmokeHallModel", "digitPlaces", "[I", true) := by decide +kernel
theorem fX7_24 : TX7 24 = ("SmokeHallModel", "copy", "[I", true) := by decide +kernel
theorem fX7_25 : TX7 25 = ("SmokeHallModel", "then", "[I", true) := by decide +kernel
theorem fX7_26 : TX7 26 = ("SmokeHallModel", "counts", "[I", true) := by decide +kernel
theorem fX7_27 : TX7 27 = ("SmokeHallModel", "copyUsed", "I", false) := by decide +kernel
theorem fX7_28 : TX7 28 = ("SmokeHallModel", "waiter", "I", false) := by decide +kernel
theorem fX7_29 : TX7 29 = ("SmokeHallModel", "waiting", "I", false) := by decide +kernel
theorem fX7_30 : TX7 30 = ("SmokeHallModel", "isTold", "Z", false) := by decide +kernel
theorem fX7_31 : TX7 31 = ("SmokeHallModel", "toldBits", "I", false) := by decide +kernel
theorem fX7_32 : TX7 32 = ("SmokeHallModel", "toldAt", "I", false) := by decide +kernel
theorem fX7_33 : TX7 33 = ("SmokeHallModel", "endName", "I", false) := by decide +kernel
theorem fX7_34 : TX7 34 = ("SmokeHallModel", "endBallot", "I", false) := by decide +kernel
theorem fX7_35 : TX7 35 = ("SmokeHallModel", "ways", "[J", true) := by decide +kernel
theorem fX7_36 : TX7 36 = ("SmokeHallModel", "more", "[J", true) := by decide +kernel
theorem fX7_37 : TX7 37 = ("SmokeHallModel", "isKept", "Z", false) := by decide +kernel
theorem fX7_38 : TX7 38 = ("SmokeHallModel", "image", "[I", true) := by decide +kernel
theorem fX7_39 : TX7 39 = ("SmokeHallModel", "imageAt", "I", false) := by decide +kernel
theorem fX7_40 : TX7 40 = ("SmokeHallModel", "singles", "[I", true) := by decide +kernel
theorem fX7_41 : TX7 41 = ("SmokeHallModel", "lanes", "[I", true) := by decide +kernel
theorem fX7_42 : TX7 42 = ("SmokeHallModel", "rowSizes", "[I", true) := by decide +kernel
theorem fX7_43 : TX7 43 = ("SmokeHallModel", "items", "[I", true) := by decide +kernel
