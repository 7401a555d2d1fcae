/-! contracts -/
def PC (G : GG) (As : List Value) (P : Heap → Prop) : Array Value → State → Prop := fun v U => v = As.toArray ∧ KK G U ∧ P U.heap
theorem PC.blind {G : GG} {As : List Value} {P : Heap → Prop} : FrameBlind (PC G As P) := fun a _ g mk h => ⟨h.1, h.2.1.c g mk a, h.2.2⟩
/-- a method that only reads: its answer -/
def MP (l : Launch) (G : GG) (y : MethodName) (ws : List Cond) (rm : Room) (As : List Value) (P : Heap → Prop) (v : Value) : Prop := Met l y ws rm (PC G As P) (k2_QcV v) 0 0 (fun _ => False)
/-- what a writing method leaves: its answer, the heap behind it -/
def QE (v : Option Value) (Post : Heap → Heap → Prop) : Array Value → State → Outcome → State → Prop := fun _ st o t => o = .returned v ∧ Post st.heap t.heap
def ME (l : Launch) (G : GG) (y : MethodName) (ws : List Cond) (rm : Room) (As : List Value) (P : Heap → Prop) (v : Option Value) (A : Nat → Prop) (Post : Heap → Heap → Prop) (mc ms : Nat) : Prop := Met l y ws rm (PC G As P) (QE v Post) mc ms A
theorem MP.of {l : Launch} {G : GG} {y : MethodName} {ws ws' : List Cond} {rm : Room} {As : List Value} {P : Heap → Prop} {v : Value} {cc : ByteArray} {maxL : Nat} {ret : Option FieldType} (hy : plainName y.cls = true) (hw : ws = Cond.code y cc maxL ret :: ws') (hml : (lg_sl As).length ≤ maxL)
    (body : ∀ (p : Program) (e : Env) (s : State) (m : MethodId) (below : List Frame) (meth : Method) (c : Code), p.tables.exec = Jvm.exec → c.code = cc → meth.sig.returnType = ret → c.maxLocals = maxL → s.vm.findClass y.cls = some m.cls → (∀ w ∈ ws, w.before As.toArray s = true) → meth.locks = false → KK G s → P s.heap → ∀ ls : Array Slot, lv_has ls maxL (lv_args 0 As) →
      W p l e (headSpec ws rm).room s m As.toArray below meth c s.heap [] 0 0 (MQ below (k2_QcV v) As.toArray s 0 0 (fun _ => False)) (F0 m 0 ls [])) : MP l G y ws rm As P v := by
  refine Met.ofW (cc := cc) (maxL := maxL) (ret := ret) hy hw ?_
  intro p e s m args below meth c s₁ B hml2 hv
  obtain ⟨rfl, hK, hP⟩ := hv
  have hl := lv_entry As (n := maxL) hml
  rw [lg_entry_eq]
  exact body p e s m below meth c B.exec B.bytes B.returns hml2 (findClass_of_methodNamed B.named) (atoms_spec (ws := ws) B.pre) B.notSynchronized hK hP _ hl
theorem ME.of {l : Launch} {G : GG} {y : MethodName} {ws ws' : List Cond} {rm : Room} {As : List Value} {P : Heap → Prop} {v : Option Value} {A : Nat → Prop} {Post : Heap → Heap → Prop} {mc ms : Nat} {cc : ByteArray} {maxL : Nat} {ret : Option FieldType} (hy : plainName y.cls = true) (hw : ws = Cond.code y cc maxL ret :: ws') (hml : (lg_sl As).length ≤ maxL)
    (body : ∀ (p : Program) (e : Env) (s : State) (m : MethodId) (below : List Frame) (meth : Method) (c : Code), p.tables.exec = Jvm.exec → c.code = cc → meth.sig.returnType = ret → c.maxLocals = maxL → s.vm.findClass y.cls = some m.cls → (∀ w ∈ ws, w.before As.toArray s = true) → meth.locks = false → meth.name = y.name → KK G s → P s.heap → ∀ ls : Array Slot, lv_has ls maxL (lv_args 0 As) →
      W p l e (headSpec ws rm).room s m As.toArray below meth c s.heap [] 0 0 (MQ below (QE v Post) As.toArray s mc ms A) (F0 m 0 ls [])) : ME l G y ws rm As P v A Post mc ms := by
  refine Met.ofW (cc := cc) (maxL := maxL) (ret := ret) hy hw ?_
  intro p e s m args below meth c s₁ B hml2 hv
  obtain ⟨rfl, hK, hP⟩ := hv
  have hl := lv_entry As (n := maxL) hml
  rw [lg_entry_eq]
  exact body p e s m below meth c B.exec B.bytes B.returns hml2 (findClass_of_methodNamed B.named) (atoms_spec (ws := ws) B.pre) B.notSynchronized (name_of_methodNamed B.named B.method).1 hK hP _ hl
theorem nz_pI (d : Prop) [Decidable d] : narrow .boolean (.int (J (pI d))) = .int (J (pI d)) := by
  by_cases h : d
  · rw [pI_t h]; rfl
  · rw [pI_f h]; rfl
section JCALLS
variable {p : Program} {l : Launch} {e : Env} {R : Room} {s : State} {m : MethodId} {args : Array Value} {below : List Frame} {meth : Method} {c : Code} {H : Heap} {locs : List Loc} {cells slots : Nat} {Q : State → Prop}
variable {cc bytes : ByteArray} {pc : Nat} {ls : Array Slot} {G : GG} {A : Nat → Prop}
/-! ends of a reading method -/
theorem r_i (hx : p.tables.exec = Jvm.exec) (hb : c.code = cc) (hr : meth.sig.returnType = some .int) (hlk : meth.locks = false) {v : Value} {r : Int32} (hv : Value.int r = v) (hdg : decode cc pc = .ok (.ireturn, 1)) : W p l e R s m args below meth c s.heap [] cells slots (MQ below (k2_QcV v) args s cells slots (fun _ => False)) (F0 m pc ls [.int r]) := W.iret hx hb hr (fun t ht _ => ⟨by rw [hv], ht⟩) (fun q h => absurd h List.not_mem_nil) hdg hlk
theorem r_z (hx : p.tables.exec = Jvm.exec) (hb : c.code = cc) (hr : meth.sig.returnType = some .boolean) (hlk : meth.locks = false) {v : Value} {r : Int32} (hn : narrow .boolean (.int r) = .int r) (hv : Value.int r = v) (hdg : decode cc pc = .ok (.ireturn, 1)) : W p l e R s m args below meth c s.heap [] cells slots (MQ below (k2_QcV v) args s cells slots (fun _ => False)) (F0 m pc ls [.int r]) := W.zret hx hb hr hn (fun t ht _ => ⟨by rw [hv], ht⟩) (fun q h => absurd h List.not_mem_nil) hdg hlk
theorem r_l (hx : p.tables.exec = Jvm.exec) (hb : c.code = cc) (hr : meth.sig.returnType = some .long) (hlk : meth.locks = false) {v : Value} {r : Int64} (hv : Value.long r = v) (hdg : decode cc pc = .ok (.lreturn, 1)) : W p l e R s m args below meth c s.heap [] cells slots (MQ below (k2_QcV v) args s cells slots (fun _ => False)) (F0 m pc ls [.long r]) := W.lret hx hb hr (fun t ht _ => ⟨by rw [hv], ht⟩) (fun q h => absurd h List.not_mem_nil) hdg hlk
theorem r_a (hx : p.tables.exec = Jvm.exec) (hb : c.code = cc) {C : String} (hr : meth.sig.returnType = some (.object C)) (hlk : meth.locks = false) {v : Value} {o : Option Nat} {r : Value} (h1 : r = va_rf o) (hv : va_rf o = v) (hdg : decode cc pc = .ok (.areturn, 1)) : W p l e R s m args below meth c s.heap [] cells slots (MQ below (k2_QcV v) args s cells slots (fun _ => False)) (F0 m pc ls [r]) := by
  subst h1
  exact W.aret hx hb hr (Or.inl ⟨C, rfl⟩) (va_rf_or o) (fun t ht _ => ⟨by rw [hv], ht⟩) (fun q h => absurd h List.not_mem_nil) hdg hlk
/-! ends of a writing method -/
theorem r_iE (hx : p.tables.exec = Jvm.exec) (hb : c.code = cc) (hr : meth.sig.returnType = some .int) (hlk : meth.locks = false) {v : Option Value} {r : Int32} {Post : Heap → Heap → Prop} {mc ms : Nat} (h1 : cells ≤ mc) (h2 : slots ≤ ms) (hv : some (Value.int r) = v) (hL : ∀ q ∈ locs, A q.base) (hp : Post s.heap H) (hdg : decode cc pc = .ok (.ireturn, 1)) : W p l e R s m args below meth c H locs cells slots (MQ below (QE v Post) args s mc ms A) (F0 m pc ls [.int r]) := W.widen h1 h2 (W.iret hx hb hr (fun t ht _ => ⟨by rw [hv], by rw [ht]; exact hp⟩) hL hdg hlk)
theorem r_vE (hx : p.tables.exec = Jvm.exec) (hb : c.code = cc) (hr : meth.sig.returnType = none) (hlk : meth.locks = false) {v : Option Value} {Post : Heap → Heap → Prop} {mc ms : Nat} (h1 : cells ≤ mc) (h2 : slots ≤ ms) (hv : none = v) (hL : ∀ q ∈ locs, A q.base) (hp : Post s.heap H) (hdg : decode cc pc = .ok (.return_, 1)) : W p l e R s m args below meth c H locs cells slots (MQ below (QE v Post) args s mc ms A) (F0 m pc ls []) := W.widen h1 h2 (W.vret hx hb hr (fun t ht _ => ⟨by rw [hv], by rw [ht]; exact hp⟩) hL hdg hlk)
theorem r_aE (hx : p.tables.exec = Jvm.exec) (hb : c.code = cc) {C : String} (hr : meth.sig.returnType = some (.object C)) (hlk : meth.locks = false) {v : Option Value} {q : Nat} {Post : Heap → Heap → Prop} {mc ms : Nat} (h1 : cells ≤ mc) (h2 : slots ≤ ms) (hv : some (Value.ref q) = v) (hL : ∀ q ∈ locs, A q.base) (hp : Post s.heap H) (hdg : decode cc pc = .ok (.areturn, 1)) : W p l e R s m args below meth c H locs cells slots (MQ below (QE v Post) args s mc ms A) (F0 m pc ls [.ref q]) := W.widen h1 h2 (W.aret hx hb hr (Or.inl ⟨C, rfl⟩) (Or.inr ⟨q, rfl⟩) (fun t ht _ => ⟨by rw [hv], by rw [ht]; exact hp⟩) hL hdg hlk)
/-! calls of reading methods -/
variable {y : MethodName} {maxL nL n index : Nat} {ret : Option FieldType} {ws : List Cond} {rm : Room} {Ts : List Cond} {own C : String} {b : Nat} {As rest st : List Value} {P : Heap → Prop} {v : Value}
theorem k_V {ci : Nat} {fs : List Value} {T : u_T} {N : Nat} (hx : p.tables.exec = Jvm.exec) (hb : c.code = cc) (hml : c.maxLocals = nL) (hown : s.vm.findClass own = some m.cls) (hts : ∀ w ∈ Ts, w.before args s = true) (hK : KK G s) (hl : ls.size = nL) (hM : MP l G y ws rm (.ref b :: As) P v) (cw : CallW R s args own C index y bytes maxL ret ws rm 0 0 n) (hr : At G H b (eO ci fs)) (hc : vwCl[ci]? = some (C, T, N)) (hP : P H) (hn : As.length = n) (hst : st = As.reverse ++ .ref b :: rest) (hW : (rest.map fun v => v.category).sum ≤ 8) (hdg : decode cc pc = .ok (.invokevirtual index, 3)) (hf : cells ≤ R.cells ∧ slots ≤ R.slots)
    (kk : W p l e R s m args below meth c H locs cells slots Q (F0 m (pc + 3) ls (v :: rest))) : W p l e R s m args below meth c H locs cells slots Q (F0 m pc ls st) :=
  W.callV (W.runV ⟨hx, hb, hml, hown, hts⟩ hM cw ⟨PC.blind, va_recv hK.1 hr.P hc (q0 := 0) rfl, fun U hU hW => ⟨rfl, hK.w hW, by rw [hU]; exact hP⟩⟩ rfl hn hl hst (lv_room hW) hdg hf) kk
theorem k_S (hx : p.tables.exec = Jvm.exec) (hb : c.code = cc) (hml : c.maxLocals = nL) (hown : s.vm.findClass own = some m.cls) (hts : ∀ w ∈ Ts, w.before args s = true) (hK : KK G s) (hl : ls.size = nL) (hM : MP l G y ws rm As P v) (cw : CallB R s args own index y bytes maxL ret ws rm 0 0 n ∧ (Cond.static y).before args s = true) (hP : P H) (hn : As.length = n) (hst : st = As.reverse ++ rest) (hW : (rest.map fun v => v.category).sum ≤ 8) (hdg : decode cc pc = .ok (.invokestatic index, 3)) (hf : cells ≤ R.cells ∧ slots ≤ R.slots)
    (kk : W p l e R s m args below meth c H locs cells slots Q (F0 m (pc + 3) ls (v :: rest))) : W p l e R s m args below meth c H locs cells slots Q (F0 m pc ls st) :=
  W.callV (W.runS ⟨hx, hb, hml, hown, hts⟩ hM cw ⟨PC.blind, fun U hU hW => ⟨rfl, hK.w hW, by rw [hU]; exact hP⟩⟩ rfl hn hl hst (lv_room hW) hdg hf) kk
theorem k_pure {mc ms : Nat} {a : Array Value} (hr : va_Run p l e R s m args below meth c H locs cells slots 0 0 (F0 m pc ls st) rest (k2_QcV v a) (fun _ => False)) (kk : W p l e R s m args below meth c H locs cells slots Q (F0 m (pc + 3) ls (v :: rest))) : W p l e R s m args below meth c H locs cells slots Q (F0 m pc ls st) := by
  intro T hT X
  obtain ⟨v, st₀, t, T', L, h0, X', hL, e1, e2, ⟨hv, hh⟩, q⟩ := hr T hT X
  cases hv
  obtain ⟨t2, a1, b1⟩ := kk T' (by rw [e1, hh, h0]) (Stand.forget X' (fun q h => (hL q h).elim))
  exact ⟨t2, q t2 a1, b1⟩
theorem k_SN {host : String} (hx : p.tables.exec = Jvm.exec) (hb : c.code = cc) (hml : c.maxLocals = nL) (hown : s.vm.findClass own = some m.cls) (hts : ∀ w ∈ Ts, w.before args s = true) (hK : KK G s) (hl : ls.size = nL) (hM : MP l G y ws rm As P v) (cw : va_CN R s args own index y host bytes maxL ret ws rm 0 0 n) (hstat : (Cond.static y).before args s = true) (hP : P H) (hn : As.length = n) (hst : st = As.reverse ++ rest) (hW : (rest.map fun v => v.category).sum ≤ 8) (hdg : decode cc pc = .ok (.invokestatic index, 3)) (hf : cells ≤ R.cells ∧ slots ≤ R.slots)
    (kk : W p l e R s m args below meth c H locs cells slots Q (F0 m (pc + 3) ls (v :: rest))) : W p l e R s m args below meth c H locs cells slots Q (F0 m pc ls st) :=
  k_pure (mc := 0) (ms := 0) (va_runSN ⟨hx, hb, hml, hown, hts⟩ hM ⟨cw, hstat, trivial⟩ ⟨PC.blind, fun U hU hW => ⟨rfl, hK.w hW, by rw [hU]; exact hP⟩⟩ rfl hn hl hst (lv_room hW) hdg hf) kk
/-! calls of writing methods -/
variable {ve : Option Value} {Post : Heap → Heap → Prop} {mc ms : Nat} {free : Nat → Prop}
theorem k_eff {a : Array Value} (hr : va_Run p l e R s m args below meth c H locs cells slots mc ms (F0 m pc ls st) rest (QE ve Post a) free) (hL : ∀ q ∈ locs, A q.base) (hA : ∀ q, free q → A q)
    (kk : ∀ (H1 : Heap) (locs1 : List Loc), Post H H1 → (∀ q ∈ locs1, A q.base) → W p l e R s m args below meth c H1 locs1 (cells + mc) (slots + ms) Q (F0 m (pc + 3) ls (ve.toList ++ rest))) : W p l e R s m args below meth c H locs cells slots Q (F0 m pc ls st) := by
  intro T hT X
  obtain ⟨v, st₀, t, T', L, h0, X', hL2, e1, e2, ⟨hv, hp⟩, q⟩ := hr T hT X
  cases hv
  rw [h0] at hp
  obtain ⟨t2, a1, b1⟩ := kk T'.heap (locs ++ L) (by rw [e1]; exact hp) (fun q hq => by
    rcases List.mem_append.mp hq with h | h
    · exact hL q h
    · exact hA _ (hL2 q h)) T' rfl X'
  exact ⟨t2, q t2 a1, b1⟩
theorem e_V {ci : Nat} {fs : List Value} {T : u_T} {N : Nat} (hx : p.tables.exec = Jvm.exec) (hb : c.code = cc) (hml : c.maxLocals = nL) (hown : s.vm.findClass own = some m.cls) (hts : ∀ w ∈ Ts, w.before args s = true) (hK : KK G s) (hl : ls.size = nL) (hM : ME l G y ws rm (.ref b :: As) P ve free Post mc ms) (cw : CallW R s args own C index y bytes maxL ret ws rm mc ms n) (hr : At G H b (eO ci fs)) (hc : vwCl[ci]? = some (C, T, N)) (hP : P H) (hn : As.length = n) (hst : st = As.reverse ++ .ref b :: rest) (hW : (rest.map fun v => v.category).sum ≤ 8) (hdg : decode cc pc = .ok (.invokevirtual index, 3)) (hf : cells + mc ≤ R.cells ∧ slots + ms ≤ R.slots) (hL : ∀ q ∈ locs, A q.base) (hA : ∀ q, free q → A q)
    (kk : ∀ (H1 : Heap) (locs1 : List Loc), Post H H1 → (∀ q ∈ locs1, A q.base) → W p l e R s m args below meth c H1 locs1 (cells + mc) (slots + ms) Q (F0 m (pc + 3) ls (ve.toList ++ rest))) : W p l e R s m args below meth c H locs cells slots Q (F0 m pc ls st) :=
  k_eff (va_runV ⟨hx, hb, hml, hown, hts⟩ hM cw ⟨PC.blind, va_recv hK.1 hr.P hc (q0 := 0) rfl, fun U hU hW => ⟨rfl, hK.w hW, by rw [hU]; exact hP⟩⟩ rfl hn hl hst (lv_room hW) hdg hf) hL hA kk
theorem e_S (hx : p.tables.exec = Jvm.exec) (hb : c.code = cc) (hml : c.maxLocals = nL) (hown : s.vm.findClass own = some m.cls) (hts : ∀ w ∈ Ts, w.before args s = true) (hK : KK G s) (hl : ls.size = nL) (hM : ME l G y ws rm As P ve free Post mc ms) (cw : CallB R s args own index y bytes maxL ret ws rm mc ms n ∧ (Cond.static y).before args s = true) (hP : P H) (hn : As.length = n) (hst : st = As.reverse ++ rest) (hW : (rest.map fun v => v.category).sum ≤ 8) (hdg : decode cc pc = .ok (.invokestatic index, 3)) (hf : cells + mc ≤ R.cells ∧ slots + ms ≤ R.slots) (hL : ∀ q ∈ locs, A q.base) (hA : ∀ q, free q → A q)
    (kk : ∀ (H1 : Heap) (locs1 : List Loc), Post H H1 → (∀ q ∈ locs1, A q.base) → W p l e R s m args below meth c H1 locs1 (cells + mc) (slots + ms) Q (F0 m (pc + 3) ls (ve.toList ++ rest))) : W p l e R s m args below meth c H locs cells slots Q (F0 m pc ls st) :=
  k_eff (va_runS ⟨hx, hb, hml, hown, hts⟩ hM cw ⟨PC.blind, fun U hU hW => ⟨rfl, hK.w hW, by rw [hU]; exact hP⟩⟩ rfl hn hl hst (lv_room hW) hdg hf) hL hA kk
theorem e_I (hx : p.tables.exec = Jvm.exec) (hb : c.code = cc) (hml : c.maxLocals = nL) (hown : s.vm.findClass own = some m.cls) (hts : ∀ w ∈ Ts, w.before args s = true) (hK : KK G s) (hl : ls.size = nL) (hM : ME l G y ws rm (.ref b :: As) P ve free Post mc ms) (cw : CallB R s args own index y bytes maxL none ws rm mc ms n ∧ y.name = "<init>" ∧ (Cond.instanceMethod y).before args s = true) (hP : P H) (hn : As.length = n) (hst : st = As.reverse ++ .ref b :: rest) (hW : (rest.map fun v => v.category).sum ≤ 8) (hdg : decode cc pc = .ok (.invokespecial index, 3)) (hf : cells + mc ≤ R.cells ∧ slots + ms ≤ R.slots) (hL : ∀ q ∈ locs, A q.base) (hA : ∀ q, free q → A q)
    (kk : ∀ (H1 : Heap) (locs1 : List Loc), Post H H1 → (∀ q ∈ locs1, A q.base) → W p l e R s m args below meth c H1 locs1 (cells + mc) (slots + ms) Q (F0 m (pc + 3) ls (ve.toList ++ rest))) : W p l e R s m args below meth c H locs cells slots Q (F0 m pc ls st) :=
  k_eff (va_runI ⟨hx, hb, hml, hown, hts⟩ hM cw ⟨PC.blind, fun U hU hW => ⟨rfl, hK.w hW, by rw [hU]; exact hP⟩⟩ rfl hn hl hst (lv_room hW) hdg hf) hL hA kk
theorem j_max (hx : p.tables.exec = Jvm.exec) (hb : c.code = cc) (hml : c.maxLocals = ls.size) {own : String} {index : Nat} (hown : s.vm.findClass own = some m.cls) (hlink : (Cond.methodLink own index Lib.Math.max.name).before args s = true) (hstat : (Cond.static Lib.Math.max.name).before args s = true) (hini : (Cond.initialized "java/lang/Math").before args s = true) (hcode : (Cond.code Lib.Math.max.name Lib.Math.max.code 2 (some .int)).before args s = true) (hframes : 1 ≤ R.frames) (hlocals : (rest.map fun v => v.category).sum + 13 ≤ R.locals) (hc : cells ≤ R.cells) (hs : slots ≤ R.slots) {x y : Int} (h1 : -2147483648 ≤ x) (h2 : x < 2147483648) (h3 : -2147483648 ≤ y) (h4 : y < 2147483648) (hdg : decode cc pc = .ok (.invokestatic index, 3))
    (kk : W p l e R s m args below meth c H locs cells slots Q (F0 m (pc + 3) ls (.int (J (max x y)) :: rest))) : W p l e R s m args below meth c H locs cells slots Q (F0 m pc ls (.int (J y) :: .int (J x) :: rest)) := by
  refine va_mmax hx hb hml hown hlink hstat hini hcode hframes hlocals hc hs hdg ?_
  have q : (if J x < J y then J y else J x) = J (max x y) := by
    by_cases h : x < y
    · rw [if_pos ((J_lt h1 h2 h3 h4).mpr h), Int.max_eq_right (by omega)]
    · rw [if_neg (fun z => h ((J_lt h1 h2 h3 h4).mp z)), Int.max_eq_left (by omega)]
  rw [q]; exact kk
end JCALLS
