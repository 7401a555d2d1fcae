/-! THE CLAIM OUT OF ONE WALK OF THE LAW'S BODY. Your part is whole_start (and what it stands on); all else here is the same for every law, but numbers. -/
def R_law : String := "RateBookLaw"
def lw_P (b : Addr) (xs : List Int32) (args : Array Value) (s : State) : Prop := args = #[.ref b] ∧ s.IntsAt b xs ∧ xs.length ≤ 3072 ∧ (Jvm.Cond.and given_1 narrow_1).before args s = true
def lw_Q (_ : Array Value) (s : State) (o : Outcome) (t : State) : Prop := o = .returned (some (.int 1)) ∧ Framed s o t [] 600000 7302250
def lw_Z (below : List Frame) (a : Array Value) (s : State) : State → Prop := fun t => ∃ o, t.status = .running ∧ Ended t below o ∧ lw_Q a s o t
/-- the law's own end, with 1 on the stack, nothing written that was there before, its room as the claim has it -/
theorem lw_ret {p : Program} {l : Launch} {e : Env} {s : State} {m : MethodId} {below : List Frame} {meth : Method} {c : Code} {b : Nat} (hx : p.tables.exec = Jvm.exec) (hb : c.code = code) (hr : meth.sig.returnType = ret) (hlocks : meth.locks = false) {pc : Nat} {H : Heap} {ls : Array Slot} (hdg : decode code pc = .ok (.ireturn, 1)) : W p l e room_1 s m #[Value.ref b] below meth c H [] 600000 7302250 (lw_Z below #[Value.ref b] s) (F0 m pc ls [.int 1]) := by
  intro T hT X
  obtain ⟨fs, hret, hrun, hended, hW, hframe⟩ := X.leave (v := some (.int 1)) (hlocks := hlocks) (fun h => by rw [hr] at h; cases h)
  have hmeth' : T.vm.method? m = some meth := X.method'
  refine ⟨T.setFrames fs, ?_, .returned (some (.int 1)), hrun, hended, rfl, ⟨_, rfl⟩, hW, hframe⟩
  jvm_step X.here [X.here.top, hx, hb, hdg, hmeth', hr, ret, narrow_b1]
  (try refine ⟨rfl, ?_⟩); (try refine ⟨rfl, ?_⟩)
  first | (intro acts; rw [hret _ acts rfl rfl rfl]) | rw [hret _ _ rfl rfl rfl]
  exact Steps.refl _
/-- what holds at the law's entry: the machine, the code, the tables' words (any of lw_tbl by 'hts w (by decide +kernel)'), the script of L ints xs at the cell b, what the Statement gives of the start (any of its parts by flat_of_before) -/
def lw_At (p : Program) (s : State) (m : MethodId) (meth : Method) (c : Code) (b L : Nat) (xs : Nat → Int32) : Prop :=
  p.tables.exec = Jvm.exec ∧ c.code = code ∧ meth.sig.returnType = ret ∧ c.maxLocals = 4 ∧ s.vm.findClass R_law = some m.cls ∧ (∀ w ∈ lw_tbl, w.before #[Value.ref b] s = true) ∧ va_X b L xs s s.heap ∧ b < s.heap.size ∧ meth.locks = false ∧ (Jvm.Cond.and given_1 narrow_1).before #[Value.ref b] s = true
/-! the law's world -/
def sx (xs : Nat → Int32) (z : Int) : Int := (xs z.toNat).toInt
theorem sx_rng (xs : Nat → Int32) (z : Int) : -2147483648 ≤ sx xs z ∧ sx xs z < 2147483648 := J_rng _
abbrev NewS (s : State) : Nat → Prop := fun q => s.heap.size ≤ q
def LA (s : State) (ad : Nat → Nat) : Nat → Prop := fun x => s.heap.size ≤ x ∧ ¬ mS ad x
def Z6 (V : St) : Prop := ∀ i, V 0 0 ≤ i → V 6 i = 0
/-- the class's world, the reference's, of one state, apart -/
def LWv (G : GG) (s : State) (a ad : Nat → Nat) (H : Heap) (V : St) : Prop := ∃ (f : Nat → Int → Nat) (N : Int → List Int) (u : Nat → Int → Int) (ys : Int → Int) (fo am : Int) (zs : Int → Int), RW G H a f N u ys V ∧ MW G H ad V fo am zs ∧ Z6 V ∧ ∀ t i, dom V t i → LA s ad (adr a f t i)
def LW (G : GG) (s : State) (a ad : Nat → Nat) (H : Heap) (locs : List Loc) : Prop := va_S (NewS s) s.heap H locs ∧ ∃ V : St, LWv G s a ad H V
theorem Z6.of {V V' : St} (h : Z6 V) (e0 : V 0 0 ≤ V' 0 0) (e : ∀ i, V' 0 0 ≤ i → V' 6 i = V 6 i) : Z6 V' := fun i hi => by rw [e i hi]; exact h i (by omega)
theorem MW.lt {G : GG} {H : Heap} {ad : Nat → Nat} {V : St} {fo am : Int} {zs : Int → Int} (h : MW G H ad V fo am zs) (i : Nat) (hi : i ≤ 18) : ad i < H.size := by
  by_cases c : i = 0
  · rw [c]; exact h.1.lt
  · by_cases c2 : i = 18
    · rw [c2]; exact h.2.2.lt
    · exact (h.2.1 i (by omega) (by omega)).lt
theorem LA.new {G : GG} {s : State} {H : Heap} {ad : Nat → Nat} {V : St} {fo am : Int} {zs : Int → Int} (h : MW G H ad V fo am zs) (hs : s.heap.size ≤ H.size) : ∀ x, H.size ≤ x → LA s ad x := fun x hx => ⟨by omega, fun ⟨i, hi, e⟩ => by have := h.lt i hi; omega⟩
/-- behind a writing call of the class -/
theorem lw_mid {G : GG} {s : State} {a ad : Nat → Nat} {H H1 : Heap} {locs locs1 : List Loc} {V V' : St} {fo am : Int} {zs : Int → Int} (hd : ∀ i, i ≤ 18 → s.heap.size ≤ ad i) (hS : va_S (NewS s) s.heap H locs) (hM : MW G H ad V fo am zs) (hp : WX G (LA s ad) a V' H H1) (hl : ∀ q ∈ locs1, NewS s q.base) : va_S (NewS s) s.heap H1 locs1 ∧ MW G H1 ad V fo am zs ∧ ∃ (f : Nat → Int → Nat) (N : Int → List Int) (u : Nat → Int → Int) (ys : Int → Int), RW G H1 a f N u ys V' ∧ ∀ t i, dom V' t i → LA s ad (adr a f t i) := by
  have x : Fr H H1 (LA s ad) (H1.size - H.size) := ⟨by have := hp.1.1; omega, hp.1.2⟩
  refine ⟨⟨by have := hS.1; have := hp.1.1; omega, fun q h1 h2 => ?_, hl⟩, hM.f x (fun i hi z => z.2 ⟨i, hi, rfl⟩), hp.2⟩
  exact (x.2 q (by have := hS.1; omega) (fun z => h2 z.1)).trans (hS.2.1 q h1 h2)
/-- behind the reference's -/
theorem lw_fin {G : GG} {s : State} {a ad : Nat → Nat} {H1 H2 : Heap} {locs1 locs2 : List Loc} {V' : St} {f : Nat → Int → Nat} {N : Int → List Int} {u : Nat → Int → Int} {ys : Int → Int} (hd : ∀ i, i ≤ 18 → s.heap.size ≤ ad i) (hS : va_S (NewS s) s.heap H1 locs1) (hR : RW G H1 a f N u ys V') (hO : ∀ t i, dom V' t i → LA s ad (adr a f t i)) (hZ : Z6 V') (hp : Fr H1 H2 (mS ad) 0 ∧ MX G H2 ad V') (hl : ∀ q ∈ locs2, NewS s q.base) : LW G s a ad H2 locs2 := by
  obtain ⟨fo, am, zs, hM⟩ := hp.2
  refine ⟨⟨by have := hS.1; have := hp.1.1; omega, fun q h1 h2 => ?_, hl⟩, V', f, N, u, ys, fo, am, zs, hR.fr hp.1 (fun t i hd2 => (hO t i hd2).2), hM, hZ, hO⟩
  exact (hp.1.2 q (by have := hS.1; omega) (fun ⟨i, hi, e⟩ => h2 (by rw [e]; exact hd i hi))).trans (hS.2.1 q h1 h2)
section LAWROWS
variable {p : Program} {l : Launch} {e : Env} {R : Room} {s : State} {m : MethodId} {args : Array Value} {below : List Frame} {meth : Method} {c : Code} {H : Heap} {locs : List Loc} {cells slots : Nat} {Q : State → Prop}
variable {cc : ByteArray} {pc : Nat} {ls : Array Slot} {rest : List Value}
theorem j_sld (hx : p.tables.exec = Jvm.exec) (hb : c.code = cc) {b L : Nat} {xs : Nat → Int32} (hX : va_X b L xs s s.heap) (hbl : b < s.heap.size) (hS : va_S (NewS s) s.heap H locs) (hL : L ≤ 3072) {z : Int} (h0 : 0 ≤ z) (h1 : z < (L : Int)) (hdg : decode cc pc = .ok (.iaload, 1)) (kk : W p l e R s m args below meth c H locs cells slots Q (F0 m (pc + 1) ls (.int (J (sx xs z)) :: rest))) : W p l e R s m args below meth c H locs cells slots Q (F0 m pc ls (.int (J z) :: .ref b :: rest)) := by
  refine va_sld hx hb hX hbl (Nat.not_le.mpr hbl) hS (J_in h0 h1 (by omega)) hdg ?_
  have q := J_clamp (z := z) h0 (by omega)
  have q2 : xs (J z).toNatClampNeg = J (sx xs z) := by
    unfold sx
    rw [J_of]
    congr 1
    omega
  rw [q2]
  exact kk
theorem j_icmpT (hx : p.tables.exec = Jvm.exec) (hb : c.code = cc) {x y : Int} {off : Int} {tgt : Nat} (he : x = y) (hdg : decode cc pc = .ok (.if_icmp .eq off, 3)) (ht : (pc : Int) + off = (tgt : Int)) (kk : W p l e R s m args below meth c H locs cells slots Q (F0 m tgt ls rest)) : W p l e R s m args below meth c H locs cells slots Q (F0 m pc ls (.int (J y) :: .int (J x) :: rest)) :=
  lv_icmp_eq hx hb hdg ht (fun _ => kk) (fun z => absurd (congrArg J he) z)
theorem lgc_self (x : Int64) : lg_cmp x x = 0 := by
  unfold lg_cmp
  rw [if_neg (Int64.lt_irrefl), if_pos rfl]
theorem j_lcmpT (hx : p.tables.exec = Jvm.exec) (hb : c.code = cc) {x y : Int} (he : x = y) (hdg : decode cc pc = .ok (.lcmp, 1)) (kk : W p l e R s m args below meth c H locs cells slots Q (F0 m (pc + 1) ls (.int (J 0) :: rest))) : W p l e R s m args below meth c H locs cells slots Q (F0 m pc ls (.long (JL y) :: .long (JL x) :: rest)) := by
  subst he
  exact W.lcmp hx hb hdg (by rw [lgc_self]; exact kk)
end LAWROWS
/-! the answers are one -/
section ANSWERS
variable {G : GG} {H : Heap} {a : Nat → Nat} {f : Nat → Int → Nat} {N : Int → List Int} {u : Nat → Int → Int} {ys : Int → Int} {V : St}
theorem an_on (hR : RW G H a f N u ys V) (h d k : Int) : (if (0 ≤ h ∧ h < V 0 0) ∧ (0 ≤ d ∧ d < 3650) ∧ 0 ≤ k ∧ k ≤ 5 then (if k = 0 then szO (mkL V (f 9) h (N h)) (V 4 h) d else if k = 1 then usO (mkL V (f 9) h (N h)) d else if k = 2 then wO V (mkL V (f 9) h (N h)) h d else if k = 3 then cO V (mkL V (f 9) h (N h)) h d else if k = 4 then rlv (cO V (mkL V (f 9) h (N h)) h d) else stO V d) else -1) = (if (0 ≤ h ∧ h < V 0 0) ∧ (0 ≤ d ∧ d < 3650) ∧ 0 ≤ k ∧ k ≤ 5 then (if k = 0 then mSz V h d else if k = 1 then mUs V h d else if k = 2 then mWo V h d else if k = 3 then mCt V h d else if k = 4 then rlv (mCt V h d) else stO V d) else -1) := by
  by_cases q : (0 ≤ h ∧ h < V 0 0) ∧ (0 ≤ d ∧ d < 3650) ∧ 0 ≤ k ∧ k ≤ 5
  · have hN := hR.2.2.1 h q.1.1 q.1.2
    rw [if_pos q, if_pos q, eq_sz hN q.1.1, eq_us hN q.1.1, eq_wo hR.1.1 hN q.1.1, eq_co hR.1.1 hN q.1.1 q.1.2]
  · rw [if_neg q, if_neg q]
theorem an_year (hR : RW G H a f N u ys V) (h y : Int) : (if (0 ≤ h ∧ h < V 0 0) ∧ 0 ≤ y ∧ y < 10 then yrO V (mkL V (f 9) h (N h)) h y else -1) = (if (0 ≤ h ∧ h < V 0 0) ∧ 0 ≤ y ∧ y < 10 then mYr V h y else -1) := by
  by_cases q : (0 ≤ h ∧ h < V 0 0) ∧ 0 ≤ y ∧ y < 10
  · rw [if_pos q, if_pos q, eq_yr hR.1.1 (hR.2.2.1 h q.1.1 q.1.2) q.1.1 q.1.2]
  · rw [if_neg q, if_neg q]
theorem an_bill (hR : RW G H a f N u ys V) (h y p_ : Int) : (if (0 ≤ h ∧ h < V 0 0) ∧ (0 ≤ y ∧ y < 10) ∧ 0 ≤ p_ ∧ p_ ≤ 3000 then yrO V (mkL V (f 9) h (N h)) h y * p_ / 365000 else -1) = (if (0 ≤ h ∧ h < V 0 0) ∧ (0 ≤ y ∧ y < 10) ∧ 0 ≤ p_ ∧ p_ ≤ 3000 then mYr V h y * p_ / 365000 else -1) := by
  by_cases q : (0 ≤ h ∧ h < V 0 0) ∧ (0 ≤ y ∧ y < 10) ∧ 0 ≤ p_ ∧ p_ ≤ 3000
  · rw [if_pos q, if_pos q, eq_yr hR.1.1 (hR.2.2.1 h q.1.1 q.1.2) q.1.1 q.1.2]
  · rw [if_neg q, if_neg q]
theorem an_paid (h y k : Int) : (if (0 ≤ h ∧ h < V 0 0) ∧ (0 ≤ y ∧ y < 10) ∧ 0 ≤ k ∧ k < 2 then (if k = 0 then blF V y h else pdF V y h) else -1) = (if (0 ≤ h ∧ h < V 0 0) ∧ (0 ≤ y ∧ y < 10) ∧ 0 ≤ k ∧ k < 2 then (if k = 0 then V 16 (10 * h + y) else V 17 (10 * h + y)) else -1) := by
  by_cases q : (0 ≤ h ∧ h < V 0 0) ∧ (0 ≤ y ∧ y < 10) ∧ 0 ≤ k ∧ k < 2
  · rw [if_pos q, if_pos q, blF_in q.1.2]; rfl
  · rw [if_neg q, if_neg q]
theorem an_owed (h w_ : Int) : (if (0 ≤ h ∧ h < V 0 0) ∧ 0 ≤ w_ ∧ w_ < 2 then owO V h w_ else -1) = (if (0 ≤ h ∧ h < V 0 0) ∧ 0 ≤ w_ ∧ w_ < 2 then mOw V h w_ else -1) := by
  by_cases q : (0 ≤ h ∧ h < V 0 0) ∧ 0 ≤ w_ ∧ w_ < 2
  · rw [if_pos q, if_pos q, eq_ow q.1.2]
  · rw [if_neg q, if_neg q]
theorem an_ward (hV : Iv V) (w_ y k : Int) : (if (-1 ≤ w_ ∧ w_ ≤ 3) ∧ (0 ≤ y ∧ y < 10) ∧ 0 ≤ k ∧ k < 4 then (if V 13 y = 0 then -2 else if k = 0 then biO V w_ y else if k = 1 then paO V w_ y else if k = 2 then V 14 y else V 15 y) else -1) = (if (-1 ≤ w_ ∧ w_ ≤ 3) ∧ (0 ≤ y ∧ y < 10) ∧ 0 ≤ k ∧ k < 4 then (if V 13 y = 0 then -2 else if k ≤ 1 then mWa V w_ y k else if k = 2 then V 14 y else V 15 y) else -1) := by
  by_cases q : (-1 ≤ w_ ∧ w_ ≤ 3) ∧ (0 ≤ y ∧ y < 10) ∧ 0 ≤ k ∧ k < 4
  · rw [if_pos q, if_pos q, eq_bi hV q.2.1.1 q.2.1.2, eq_pa hV]
    congr 1
    by_cases c0 : k = 0
    · rw [if_pos c0, if_pos (by omega), c0]
    · rw [if_neg c0]
      by_cases c1 : k = 1
      · rw [if_pos c1, if_pos (by omega), c1]
      · rw [if_neg c1, if_neg (show ¬ k ≤ 1 by omega)]
  · rw [if_neg q, if_neg q]
theorem an_count (k : Int) : (if k = 0 then V 0 0 else if k = 1 then V 0 1 else if k = 2 then evO V else if k = 3 then syO V else if k = 4 then rkO V else -1) = (if k = 0 then V 0 0 else if k = 1 then V 0 1 else if k = 2 then evO V else if k = 3 then mSy V else if k = 4 then rkO V else -1) := by rw [eq_sy]
theorem an_unit (hV : Iv V) (k s_ q : Int) : (if (0 ≤ k ∧ k ≤ 2) ∧ (0 ≤ s_ ∧ s_ ≤ 5) ∧ 0 ≤ q ∧ q ≤ 3 then (if q = 0 then unA V k s_ (-1) else if q = 1 then unB V k s_ (-1) else if q = 2 then unC V k s_ (-1) else unD V k s_ (-1)) else -1) = (if (0 ≤ k ∧ k ≤ 2) ∧ (0 ≤ s_ ∧ s_ ≤ 5) ∧ 0 ≤ q ∧ q ≤ 3 then (if q = 0 then mUa V k s_ (-1) else if q = 1 then mUb V k s_ (-1) else if q = 2 then fAm V k s_ (-1) else if fFo V k s_ (-1) < 0 then -4 else fFo V k s_ (-1)) else -1) := by
  rw [(eq_ua hV k s_ (-1)).1, (eq_ua hV k s_ (-1)).2, (eq_uc hV k s_ (-1)).1, (eq_uc hV k s_ (-1)).2]
theorem an_tested (hV : Iv V) (h : Int) : (if 0 ≤ h ∧ h < V 0 0 then V 4 h * unA V (V 2 h) (V 3 h) h / unB V (V 2 h) (V 3 h) h else -1) = (if 0 ≤ h ∧ h < V 0 0 then (if fFo V (V 2 h) (V 3 h) h < 0 then 10 * V 4 h else V 4 h * V 5 (fFo V (V 2 h) (V 3 h) h) / V 4 (fFo V (V 2 h) (V 3 h) h)) else -1) := by
  rw [eq_te hV]
theorem an_UA (hV : Iv V) : UA V := fun k s _ _ _ _ => ⟨(eq_ua hV k s (-1)).1.symm, (eq_ua hV k s (-1)).2.symm⟩
theorem an_hq (hR : RW G H a f N u ys V) (y : Int) : 0 ≤ y → y < 10 → ∀ h, 0 ≤ h → h < V 0 0 → yrO V (mkL V (f 9) h (N h)) h y = mYr V h y := fun _ _ h h0 h1 => eq_yr hR.1.1 (hR.2.2.1 h h0 h1) h0 h1 (f 9) y
/-! no events behind the last house -/
theorem Z6.rent (h : Z6 V) (c : Prop) [Decidable c] (o r : Int) : Z6 (if c then vu V 5 o r else V) := by
  split
  · exact h
  · exact h
theorem Z6.sk (h : Z6 V) {o : Int} (c : Prop) [Decidable c] (hc : c → o < V 0 0) : Z6 (if c then sSk V o else V) := by
  split
  · rename_i q
    exact h.of (V' := sSk V o) (Int.le_refl _) (fun i hi => by
      rw [sSk_6]
      have : V 0 0 ≤ i := hi
      have := hc q
      rw [if_neg (by omega)])
  · exact h
theorem Z6.ad (h : Z6 V) {o d k v : Int} (c : Prop) [Decidable c] (hc : c → o < V 0 0) : Z6 (if c then sAd V o d k v else V) := by
  split
  · rename_i q
    exact h.of (V' := sAd V o d k v) (Int.le_of_eq (by rw [sAd_0 V o d k v 0 (by omega)])) (fun i hi => by
      rw [sAd_0 V o d k v 0 (by omega)] at hi
      have := hc q
      rw [sAd_6, if_neg (by omega)])
  · exact h
theorem Z6.ho (h : Z6 V) {w k t z r : Int} (c : Prop) [Decidable c] : Z6 (if c then sHo V w k t z r else V) := by
  split
  · exact h.of (V' := sHo V w k t z r) (by rw [sHo_00]; omega) (fun i _ => by rw [sHo_old _ _ _ _ _ _ (by omega) (by omega)])
  · exact h
theorem Z6.li (h : Z6 V) {d : Int} (c : Prop) [Decidable c] : Z6 (if c then sLi V d else V) := by
  split
  · exact h.of (V' := sLi V d) (by rw [sLi_00]; exact Int.le_refl _) (fun i _ => by rw [sLi_c V d (by omega) (by omega)])
  · exact h
theorem Z6.st (h : Z6 V) (hV : Iv V) {y nd : Int} (c : Prop) [Decidable c] : Z6 (if c then sSt V y nd else V) := by
  split
  · exact h.of (V' := sSt V y nd) (by rw [sSt_c hV y nd (c := 0) (by omega)]; exact Int.le_refl _) (fun i _ => by rw [sSt_c hV y nd (c := 6) (by omega)])
  · exact h
theorem Z6.pay (h : Z6 V) {o y v : Int} (c : Prop) [Decidable c] : Z6 (if c then sPa V o y v else V) := by
  split
  · exact h
  · exact h
theorem Z6.ap (h : Z6 V) (hV : Iv V) {o d v lk : Int} : Z6 (@ite St (((0 ≤ o ∧ o < V 0 0) ∧ (0 ≤ d ∧ d < 3650) ∧ 1 ≤ v ∧ v ≤ 900) ∧ ¬ apF V o lk) (Classical.propDecidable _) (apW V o d v lk (V 0 0)) V) := by
  split
  · rename_i q
    have w := apW_inv hV (h := o) (d := d) (c := v) (lk := lk) (i := V 0 0) (by omega) q.1.2.2 q.2 hV.n.1 (Int.le_refl _)
    exact h.of (V' := apW V o d v lk (V 0 0)) (Int.le_of_eq (by rw [w.2.1 0 (by omega)])) (fun i hi => w.2.2 i (by rw [w.2.1 0 (by omega)] at hi; exact hi))
  · exact h
end ANSWERS
