theorem va_rf_cat (o : Option Nat) : (va_rf o).category = 1 := by cases o <;> rfl
section JROWS2
variable {p : Program} {l : Launch} {e : Env} {R : Room} {s : State} {m : MethodId} {args : Array Value} {below : List Frame} {meth : Method} {c : Code} {H : Heap} {locs : List Loc} {cells slots : Nat} {Q : State → Prop}
variable {cc : ByteArray} {pc : Nat} {ls : Array Slot} {rest : List Value}
/-! a reference or null, loaded and stored -/
theorem j_aload_nQ (hx : p.tables.exec = Jvm.exec) (hb : c.code = cc) {k : Fin 4} {i : Nat} {o : Option Nat} (hdg : decode cc pc = .ok (.aload_n k, 1)) (hi : (k : Nat) = i) (hl : ls[i]? = some (.val (va_rf o))) (kk : W p l e R s m args below meth c H locs cells slots Q (F0 m (pc + 1) ls (va_rf o :: rest))) : W p l e R s m args below meth c H locs cells slots Q (F0 m pc ls rest) := by
  cases o with
  | none => exact lv_aload_nN hx hb hdg hi hl kk
  | some a => exact lv_aload_n hx hb hdg hi hl kk
theorem j_aloadQ (hx : p.tables.exec = Jvm.exec) (hb : c.code = cc) {i : Nat} {o : Option Nat} (hdg : decode cc pc = .ok (.aload i, 2)) (hl : ls[i]? = some (.val (va_rf o))) (kk : W p l e R s m args below meth c H locs cells slots Q (F0 m (pc + 2) ls (va_rf o :: rest))) : W p l e R s m args below meth c H locs cells slots Q (F0 m pc ls rest) := by
  cases o with
  | none => exact lv_aloadN hx hb hdg hl kk
  | some a => exact lv_aload hx hb hdg hl kk
theorem j_astore_nQ (hx : p.tables.exec = Jvm.exec) (hb : c.code = cc) {k : Fin 4} {i nL : Nat} {o : Option Nat} {lv lv' : List (Nat × Value)} (hdg : decode cc pc = .ok (.astore_n k, 1)) (hi : (k : Nat) = i) (h : lv_has ls nL lv) (hn : i < nL) (hl : (i, va_rf o) :: lv.filter (fun q => !(q.1 == i) && !(q.1 + 1 == i && q.2.category == 2)) = lv') (kk : ∀ ls' : Array Slot, lv_has ls' nL lv' → W p l e R s m args below meth c H locs cells slots Q (F0 m (pc + 1) ls' rest)) : W p l e R s m args below meth c H locs cells slots Q (F0 m pc ls (va_rf o :: rest)) := by
  cases o with
  | none => exact lv_astore_nN hx hb hdg hi h hn hl kk
  | some a => exact lv_astore_n hx hb hdg hi h hn hl kk
theorem j_astoreQ (hx : p.tables.exec = Jvm.exec) (hb : c.code = cc) {i nL : Nat} {o : Option Nat} {lv lv' : List (Nat × Value)} (hdg : decode cc pc = .ok (.astore i, 2)) (h : lv_has ls nL lv) (hn : i < nL) (hl : (i, va_rf o) :: lv.filter (fun q => !(q.1 == i) && !(q.1 + 1 == i && q.2.category == 2)) = lv') (kk : ∀ ls' : Array Slot, lv_has ls' nL lv' → W p l e R s m args below meth c H locs cells slots Q (F0 m (pc + 2) ls' rest)) : W p l e R s m args below meth c H locs cells slots Q (F0 m pc ls (va_rf o :: rest)) := by
  cases o with
  | none => exact lv_astoreN hx hb hdg h hn hl kk
  | some a => exact lv_astore hx hb hdg h hn hl kk
end JROWS2
/-! the state, as the rows of the reference hold it: 0 how many houses, lists; by house 1 ward, 2 kind, 3 street, 4 size, 5 rent, 6 how many events; by 12 h + e 7 day, 8 kind, 9 value; 10 a list's day; by 18 l + 6 k + s 11 above, 12 below; by year 13 struck, 14 poundage, 15 needs; by 10 h + y 16 billed, 17 paid -/
abbrev St : Type := Nat → Int → Int
abbrev asked (V : St) (k s out h : Int) : Prop := h ≠ out ∧ V 2 h = k ∧ (s = -1 ∨ V 3 h = s) ∧ 0 < V 5 h
abbrev less (V : St) (a b : Int) : Prop := V 5 a * V 4 b < V 5 b * V 4 a ∨ (V 5 a * V 4 b = V 5 b * V 4 a ∧ a < b)
def among (V : St) (k s out : Int) : Int := lo (fun x h => x + pI (asked V k s out h)) 0 (V 0 0)
def rank (V : St) (k s out h : Int) : Int := lo (fun x o => x + pI (asked V k s out o ∧ less V o h)) 0 (V 0 0)
def mid (V : St) (k s out r : Int) : Option Int := lo (fun x i => if x = none ∧ asked V k s out i ∧ rank V k s out i = r then some i else x) none (V 0 0)
/-- what every state keeps -/
def Iv (V : St) : Prop :=
  ((0 ≤ V 0 0 ∧ V 0 0 ≤ 40) ∧ (0 ≤ V 0 1 ∧ V 0 1 ≤ 10)) ∧
  (∀ h, 0 ≤ h → h < V 0 0 → (0 ≤ V 1 h ∧ V 1 h ≤ 3) ∧ (0 ≤ V 2 h ∧ V 2 h ≤ 2) ∧ (0 ≤ V 3 h ∧ V 3 h ≤ 5) ∧ (1 ≤ V 4 h ∧ V 4 h ≤ 500) ∧ (0 ≤ V 5 h ∧ V 5 h ≤ 100000) ∧ (0 ≤ V 6 h ∧ V 6 h ≤ 12)) ∧
  (∀ h e, 0 ≤ h → h < V 0 0 → 0 ≤ e → e < V 6 h → (0 ≤ V 7 (12 * h + e) ∧ V 7 (12 * h + e) ≤ 3649) ∧ ((V 8 (12 * h + e) = 0 ∧ 1 ≤ V 9 (12 * h + e) ∧ V 9 (12 * h + e) ≤ 500) ∨ (V 8 (12 * h + e) = 1 ∧ 0 ≤ V 9 (12 * h + e) ∧ V 9 (12 * h + e) ≤ 3) ∨ (V 8 (12 * h + e) = 2 ∧ 1 ≤ V 9 (12 * h + e) ∧ V 9 (12 * h + e) ≤ 900))) ∧
  (∀ i, 0 ≤ i → i < V 0 1 → 0 ≤ V 10 i ∧ V 10 i ≤ 3649) ∧
  (∀ i u, 0 ≤ i → i < V 0 1 → 0 ≤ u → u < 18 → (1 ≤ V 11 (18 * i + u) ∧ V 11 (18 * i + u) ≤ 100000) ∧ (1 ≤ V 12 (18 * i + u) ∧ V 12 (18 * i + u) ≤ 500)) ∧
  (∀ y, 0 ≤ y → y < 10 → (V 13 y = 0 ∨ V 13 y = 1) ∧ (0 ≤ V 14 y ∧ V 14 y ≤ 3000) ∧ (0 ≤ V 15 y ∧ V 15 y ≤ 100000000)) ∧
  (∀ h y, 0 ≤ h → h < 40 → 0 ≤ y → y < 10 → (V 16 (10 * h + y) = -4 ∨ (0 ≤ V 16 (10 * h + y) ∧ V 16 (10 * h + y) ≤ 200000000)) ∧ (0 ≤ V 17 (10 * h + y) ∧ V 17 (10 * h + y) ≤ 10000000))
theorem Iv.n {V : St} (h : Iv V) : 0 ≤ V 0 0 ∧ V 0 0 ≤ 40 := h.1.1
theorem Iv.l {V : St} (h : Iv V) : 0 ≤ V 0 1 ∧ V 0 1 ≤ 10 := h.1.2
theorem Iv.h {V : St} (h : Iv V) {i : Int} (h0 : 0 ≤ i) (h1 : i < V 0 0) : (0 ≤ V 1 i ∧ V 1 i ≤ 3) ∧ (0 ≤ V 2 i ∧ V 2 i ≤ 2) ∧ (0 ≤ V 3 i ∧ V 3 i ≤ 5) ∧ (1 ≤ V 4 i ∧ V 4 i ≤ 500) ∧ (0 ≤ V 5 i ∧ V 5 i ≤ 100000) ∧ (0 ≤ V 6 i ∧ V 6 i ≤ 12) := h.2.1 i h0 h1
/-! the class's houses and town -/
def eHo (V : St) (ea : Int → Nat) (i : Int) : va_E := eO 2 [.int (J i), .int (J (V 1 i)), .int (J (V 2 i)), .int (J (V 3 i)), .int (J (V 4 i)), .ref (ea i), .int (J (V 5 i))]
def Tn (G : GG) (H : Heap) (tw hs : Nat) (ha ea : Int → Nat) (V : St) : Prop := Iv V ∧ At G H tw (eO 5 [.ref hs, .int (J (V 0 0))]) ∧ At G H hs (eQ G 4 40 (qN (V 0 0) ha)) ∧ ∀ i, 0 ≤ i → i < V 0 0 → At G H (ha i) (eHo V ea i)
def gLat (k d : Int) : Option EvT → EvT → Option EvT := fun x e => if eKi e = k ∧ eDy e ≤ d then some e else x
def gCtd (f t : Int) : Int → EvT → Int := fun x e => if eKi e = 2 ∧ f ≤ eDy e ∧ eDy e ≤ t then x * (1000 - eVa e) / 1000 else x
def gNx (d : Int) : Int → EvT → Int := fun x e => snr (eDy e + 90) d (snr (eDy e) d x)
theorem lat_lo {L : List EvT} {k d i : Int} (h : L.length ≤ 12) (hi : i = 12) : lo (ls_ L (gLat k d)) none i = lat L k d := by subst hi; exact lo_list (gLat k d) L none 12 h
theorem ctd_lo {L : List EvT} {f t w i : Int} (h : L.length ≤ 12) (hi : i = 12) : lo (ls_ L (gCtd f t)) w i = ctd L f t w := by subst hi; exact lo_list (gCtd f t) L w 12 h
theorem nxE_lo {L : List EvT} {d nx i : Int} (h : L.length ≤ 12) (hi : i = 12) : lo (ls_ L (gNx d)) nx i = nxE L d nx := by subst hi; exact lo_list (gNx d) L nx 12 h
theorem snr_rng {ch d nx : Int} (h : d < nx) : d < snr ch d nx ∧ snr ch d nx ≤ nx := by unfold snr; split <;> omega
theorem mulb {a b : Int} {A B : Int} (h1 : 0 ≤ a) (h2 : a ≤ A) (h3 : 0 ≤ b) (h4 : b ≤ B) : 0 ≤ a * b ∧ a * b ≤ A * B := ⟨Int.mul_nonneg h1 h3, Int.mul_le_mul h2 h4 h3 (by omega)⟩
theorem ctd_rng {L : List EvT} {f t : Int} (hok : ∀ e ∈ L, eOk e) : ∀ w : Int, 0 ≤ w → w ≤ 50000000 → 0 ≤ ctd L f t w ∧ ctd L f t w ≤ 50000000 := by
  unfold ctd
  induction L with
  | nil => intro w h1 h2; exact ⟨h1, h2⟩
  | cons e L ih =>
    intro w h1 h2
    have ho := hok e List.mem_cons_self
    unfold eOk at ho
    rw [List.foldl_cons]
    refine ih (fun e h => hok e (List.mem_cons_of_mem _ h)) _ ?_ ?_
    · split
      · have q := mulb (a := w) (b := 1000 - eVa e) (A := 50000000) (B := 1000) h1 h2 (by omega) (by omega)
        omega
      · exact h1
    · split
      · have q := mulb (a := w) (b := 1000 - eVa e) (A := 50000000) (B := 1000) h1 h2 (by omega) (by omega)
        omega
      · exact h2
