/-! an event more, in the world -/
def fEv (f : Nat → Int → Nat) (i : Int) (q : Nat) : Nat → Int → Nat := fun t j => if t = 9 ∧ j = i then q else f t j
def nIns (V : St) (f9 : Int → Nat) (h : Int) (N : List Int) (d : Int) : List Int := N.take (ipos (mkL V f9 h N) d N.length) ++ V 6 h :: N.drop (ipos (mkL V f9 h N) d N.length)
theorem fEv_n {f : Nat → Int → Nat} {i : Int} {q t : Nat} (h : t ≠ 9) : fEv f i q t = f t := by
  funext j
  unfold fEv
  rw [if_neg (fun z => h z.1)]
theorem mkL_len (V : St) (f9 : Int → Nat) (h : Int) (N : List Int) : (mkL V f9 h N).length = N.length := List.length_map _
theorem mkL_get {V : St} {f9 : Int → Nat} {h : Int} {N : List Int} (n : Nat) : (mkL V f9 h N)[n]? = (N[n]?).map (mkE V f9 h) := List.getElem?_map
/-- where a day comes in: behind all that aren't later -/
theorem ipos_spec {V : St} {f9 : Int → Nat} {h d : Int} {N : List Int} (hs : N.Pairwise (fun a b => V 7 (12 * h + a) ≤ V 7 (12 * h + b))) : ∀ n, n ≤ N.length → (∀ i j, i < ipos (mkL V f9 h N) d n → N[i]? = some j → V 7 (12 * h + j) ≤ d) ∧ (∀ i j, ipos (mkL V f9 h N) d n ≤ i → i < n → N[i]? = some j → d < V 7 (12 * h + j)) := by
  intro n
  induction n with
  | zero => intro _; exact ⟨fun i j a => absurd a (by unfold ipos; omega), fun i j _ b => absurd b (by omega)⟩
  | succ n ih =>
    intro hn
    have g : N[n]? = some (N[n]'(by omega)) := List.getElem?_eq_getElem (by omega)
    have e : (mkL V f9 h N)[n]? = some (mkE V f9 h (N[n]'(by omega))) := by rw [mkL_get, g]; rfl
    have st : ipos (mkL V f9 h N) d (n + 1) = if eDy (mkE V f9 h (N[n]'(by omega))) ≤ d then n + 1 else ipos (mkL V f9 h N) d n := by
      show (match (mkL V f9 h N)[n]? with | none => ipos (mkL V f9 h N) d n | some e => if eDy e ≤ d then n + 1 else ipos (mkL V f9 h N) d n) = _
      rw [e]
    rw [st]
    by_cases q : eDy (mkE V f9 h (N[n]'(by omega))) ≤ d
    · rw [if_pos q]
      refine ⟨fun i j a b => ?_, fun i j a b => absurd b (by omega)⟩
      by_cases z : i = n
      · subst z
        rw [g] at b
        cases b; exact q
      · have hi : i < N.length := by omega
        rw [List.getElem?_eq_getElem hi] at b
        cases b
        have w := List.pairwise_iff_getElem.mp hs i n hi (by omega) (by omega)
        exact Int.le_trans w q
    · rw [if_neg q]
      have w := ih (by omega)
      refine ⟨w.1, fun i j a b c => ?_⟩
      by_cases z : i = n
      · subst z
        rw [g] at c
        cases c
        have : ¬ (V 7 (12 * h + N[i]'(by omega)) ≤ d) := q
        omega
      · exact w.2 i j a (by omega) c
theorem nIns_parts {V : St} {f9 : Int → Nat} {h d : Int} {N : List Int} (hs : N.Pairwise (fun a b => V 7 (12 * h + a) ≤ V 7 (12 * h + b))) : (∀ j ∈ N.take (ipos (mkL V f9 h N) d N.length), V 7 (12 * h + j) ≤ d) ∧ (∀ j ∈ N.drop (ipos (mkL V f9 h N) d N.length), d < V 7 (12 * h + j)) := by
  have w := ipos_spec (f9 := f9) (d := d) hs N.length (Nat.le_refl _)
  refine ⟨fun j hj => ?_, fun j hj => ?_⟩
  · obtain ⟨i, hi⟩ := List.getElem?_of_mem hj
    rw [List.getElem?_take] at hi
    split at hi
    · rename_i z; exact w.1 i j z hi
    · cases hi
  · obtain ⟨i, hi⟩ := List.getElem?_of_mem hj
    rw [List.getElem?_drop] at hi
    exact w.2 _ j (by omega) (List.getElem?_eq_some_iff.mp hi).1 hi
theorem nIns_mem {V : St} {f9 : Int → Nat} {h d j : Int} {N : List Int} (hj : j ∈ nIns V f9 h N d) : j = V 6 h ∨ j ∈ N := by
  unfold nIns at hj
  rcases List.mem_append.mp hj with z | z
  · exact Or.inr (List.mem_of_mem_take z)
  · rcases List.mem_cons.mp z with z | z
    · exact Or.inl z
    · exact Or.inr (List.mem_of_mem_drop z)
theorem nIns_mk {V W : St} {f9 g9 : Int → Nat} {h d k v : Int} {q : Nat} {N : List Int} (hN : ∀ j ∈ N, mkE W g9 h j = mkE V f9 h j) (hn : mkE W g9 h (V 6 h) = (q, V 6 h, d, k, v)) (hl : (N.length : Int) = V 6 h) : insL (mkL V f9 h N) (q, ((mkL V f9 h N).length : Int), d, k, v) = mkL W g9 h (nIns V f9 h N d) := by
  unfold insL nIns
  rw [mkL_len, hl]
  show (mkL V f9 h N).take (ipos (mkL V f9 h N) d N.length) ++ _ :: (mkL V f9 h N).drop (ipos (mkL V f9 h N) d N.length) = _
  unfold mkL
  rw [List.map_append, List.map_cons, List.map_take, List.map_drop, hn]
  congr 1
  · rw [← List.map_take, ← List.map_take]
    exact (List.map_congr_left (fun j hj => hN j (List.mem_of_mem_take hj))).symm
  · congr 1
    rw [← List.map_drop, ← List.map_drop]
    exact (List.map_congr_left (fun j hj => hN j (List.mem_of_mem_drop hj))).symm
theorem filter_none {α : Type} {p : α → Bool} {L : List α} (h : ∀ x ∈ L, p x = false) : L.filter p = [] := List.filter_eq_nil_iff.mpr (fun x hx => by rw [h x hx]; exact Bool.false_ne_true)
theorem filter_same {α : Type} {p q : α → Bool} {L : List α} (h : ∀ x ∈ L, p x = q x) : L.filter p = L.filter q := List.filter_congr h
theorem Nok.ins {V W : St} {f9 : Int → Nat} {h d : Int} {N : List Int} (hN : Nok V h N) (h7 : ∀ j, 0 ≤ j → j < V 6 h → W 7 (12 * h + j) = V 7 (12 * h + j)) (hd : W 7 (12 * h + V 6 h) = d) (h6 : W 6 h = V 6 h + 1) : Nok W h (nIns V f9 h N d) := by
  obtain ⟨n1, n2, n3, n4⟩ := hN
  have hp := ipos_le (mkL V f9 h N) d N.length
  have pt := nIns_parts (f9 := f9) (d := d) n3
  have e7 : ∀ j ∈ N, W 7 (12 * h + j) = V 7 (12 * h + j) := fun j hj => h7 j (n2 j hj).1 (n2 j hj).2
  refine ⟨?_, fun j hj => ?_, ?_, fun D => ?_⟩
  · unfold nIns
    rw [List.length_append, List.length_cons, List.length_take, List.length_drop, h6]
    omega
  · rw [h6]
    rcases nIns_mem hj with z | z
    · omega
    · have := n2 j z
      omega
  · have n3' : N.Pairwise (fun a b => W 7 (12 * h + a) ≤ W 7 (12 * h + b)) := by
      refine List.Pairwise.imp_of_mem (fun {x y} hx hy z => ?_) n3
      rw [e7 x hx, e7 y hy]; exact z
    unfold nIns
    rw [List.pairwise_append]
    refine ⟨n3'.sublist (List.take_sublist _ _), List.pairwise_cons.mpr ⟨fun y hy => ?_, n3'.sublist (List.drop_sublist _ _)⟩, fun x hx y hy => ?_⟩
    · rw [hd, e7 y (List.mem_of_mem_drop hy)]
      have := pt.2 y hy
      omega
    · have a := pt.1 x hx
      rw [e7 x (List.mem_of_mem_take hx)]
      rcases List.mem_cons.mp hy with z | z
      · rw [z, hd]; exact a
      · rw [e7 y (List.mem_of_mem_drop z)]
        have := pt.2 y z
        omega
  · have f0 : ∀ M : List Int, (∀ j ∈ M, j ∈ N) → M.filter (fun j => decide (W 7 (12 * h + j) = D)) = M.filter (fun j => decide (V 7 (12 * h + j) = D)) := fun M hM => filter_same (fun j hj => by rw [e7 j (hM j hj)])
    have ft : (tld (V 6 h)).filter (fun j => decide (W 7 (12 * h + j) = D)) = (tld (V 6 h)).filter (fun j => decide (V 7 (12 * h + j) = D)) := filter_same (fun j hj => by have := tld_mem.mp hj; rw [h7 j this.1 this.2])
    have hn6 : 0 ≤ V 6 h := by omega
    rw [h6, tld_s hn6, List.filter_append, ft]
    unfold nIns
    rw [List.filter_append, List.filter_cons, f0 _ (fun j hj => List.mem_of_mem_take hj), f0 _ (fun j hj => List.mem_of_mem_drop hj)]
    have n4' := n4 D
    rw [← List.take_append_drop (ipos (mkL V f9 h N) d N.length) N, List.filter_append] at n4'
    by_cases z : d = D
    · have dz : (N.drop (ipos (mkL V f9 h N) d N.length)).filter (fun j => decide (V 7 (12 * h + j) = D)) = [] := filter_none (fun j hj => by have := pt.2 j hj; exact decide_eq_false (by omega))
      rw [dz, List.append_nil] at n4'
      rw [hd, if_pos (decide_eq_true z), dz, n4', List.filter_cons, hd, if_pos (decide_eq_true z), List.filter_nil]
    · rw [hd, if_neg (by rw [decide_eq_false z]; exact Bool.false_ne_true), n4', List.filter_cons, hd, if_neg (by rw [decide_eq_false z]; exact Bool.false_ne_true), List.filter_nil, List.append_nil]
section STEPS2
variable {G : GG} {H H1 : Heap} {a : Nat → Nat} {f : Nat → Int → Nat} {N : Int → List Int} {u : Nat → Int → Int} {ys : Int → Int} {V : St}
theorem sAd_7 (V : St) (h d k v i : Int) : sAd V h d k v 7 i = if i = 12 * h + V 6 h then d else V 7 i := rfl
theorem sAd_8 (V : St) (h d k v i : Int) : sAd V h d k v 8 i = if i = 12 * h + V 6 h then k else V 8 i := rfl
theorem sAd_9 (V : St) (h d k v i : Int) : sAd V h d k v 9 i = if i = 12 * h + V 6 h then v else V 9 i := rfl
theorem mkE_ad {V : St} {f : Nat → Int → Nat} {h d k v j i : Int} {q : Nat} (hi : 12 * i + j ≠ 12 * h + V 6 h) : mkE (sAd V h d k v) (fEv f (12 * h + V 6 h) q 9) i j = mkE V (f 9) i j := by
  unfold mkE
  rw [sAd_7, sAd_8, sAd_9, if_neg hi, if_neg hi, if_neg hi]
  unfold fEv
  rw [if_neg (fun z => hi z.2)]
theorem RW.ad {hh d k v : Int} {q : Nat} (h : RW G H a f N u ys V) (h0 : 0 ≤ hh) (h1 : hh < V 0 0) (h6 : V 6 hh < 12) (hd : 0 ≤ d ∧ d ≤ 3649) (hk : (k = 0 ∧ 1 ≤ v ∧ v ≤ 500) ∨ (k = 1 ∧ 0 ≤ v ∧ v ≤ 3) ∨ (k = 2 ∧ 1 ≤ v ∧ v ≤ 900)) (hq : q = H.size) (x : Fr H H1 (fun z => z = f 1 hh ∨ z = f 2 hh) 1)
    (hc : Evs G H1 (f 1 hh) (f 2 hh) (insL (mkL V (f 9) hh (N hh)) (q, ((mkL V (f 9) hh (N hh)).length : Int), d, k, v))) : RW G H1 a (fEv f (12 * hh + V 6 hh) q) (uf N hh (nIns V (f 9) hh (N hh) d)) u ys (sAd V hh d k v) := by
  have lt : ∀ t i, dom V t i → adr a f t i < H.size := by
    obtain ⟨⟨hV, hX, hT, hE, hL, hBa, hBk⟩, hY, hN, hI⟩ := h
    intro t i hd
    rcases hd with z | z | z | z | z | z
    · obtain ⟨z1, rfl⟩ := z
      show (if t < 10 then a t else f (t - 10) 0) < H.size
      rw [if_pos (by omega)]
      match t, z1 with
      | 0, _ => exact hX.lt
      | 1, _ => exact hT.2.1.lt
      | 2, _ => exact hT.2.2.1.lt
      | 3, _ => exact hL.2.1.lt
      | 4, _ => exact hL.2.2.1.lt
      | 5, _ => exact hBa.lt
      | 6, _ => exact hY.lt
    · obtain ⟨z1, z2, z3, z4⟩ := z
      show (if t < 10 then a t else f (t - 10) i) < H.size
      rw [if_neg (by omega)]
      have : t = 10 ∨ t = 11 ∨ t = 12 := by omega
      rcases this with rfl | rfl | rfl
      · exact (hT.2.2.2 i z3 z4).lt
      · exact (hE i z3 z4).1.lt
      · exact (hE i z3 z4).2.1.lt
    · obtain ⟨z1, z2, z3, z4⟩ := z
      show (if t < 10 then a t else f (t - 10) i) < H.size
      rw [if_neg (by omega)]
      have : t = 13 ∨ t = 14 := by omega
      rcases this with rfl | rfl
      · exact (hL.2.2.2.1 i z3 z4).lt
      · exact (hL.2.2.2.2.1 i z3 z4).lt
    · obtain ⟨rfl, z3, z4⟩ := z
      have w := (hL.2.2.2.2.2 (i / 18) (i % 18) (by omega) (by omega) (by omega) (by omega)).lt
      rw [show 18 * (i / 18) + i % 18 = i by omega] at w
      exact w
    · obtain ⟨z1, z2, z3, z4⟩ := z
      show (if t < 10 then a t else f (t - 10) i) < H.size
      rw [if_neg (by omega)]
      have : t = 16 ∨ t = 17 ∨ t = 18 := by omega
      rcases this with rfl | rfl | rfl
      · exact (hBk i z3 z4).2.1.lt
      · exact (hBk i z3 z4).2.2.1.lt
      · exact (hBk i z3 z4).2.2.2.lt
    · obtain ⟨rfl, hh, e, z1, z2, rfl⟩ := z
      have n := hN hh z1.1 z1.2
      have hm : e ∈ N hh := by
        have w : e ∈ (tld (V 6 hh)).filter (fun j => decide (V 7 (12 * hh + j) = V 7 (12 * hh + e))) := List.mem_filter.mpr ⟨tld_mem.mpr z2, decide_eq_true rfl⟩
        rw [← n.2.2.2] at w
        exact (List.mem_filter.mp w).1
      exact ((hE hh z1.1 z1.2).2.2.2.1 (mkE V (f 9) hh e) (List.mem_map.mpr ⟨e, hm, rfl⟩)).lt
  obtain ⟨⟨hV, hX, hT, hE, hL, hBa, hBk⟩, hY, hN, hI⟩ := h
  have hV2 := hV.ad h0 h1 h6 hd hk
  have r6 := hV.h h0 h1
  have o : ∀ t i, dom V t i → ¬ (t = 11 ∧ i = hh) → ¬ (t = 12 ∧ i = hh) → ¬ (adr a f t i = f 1 hh ∨ adr a f t i = f 2 hh) := fun t i hd hn hm z => by
    rcases z with z | z
    · exact hn (hI t i 11 hh hd (dH 11 (by omega) (by omega) h0 h1) z)
    · exact hm (hI t i 12 hh hd (dH 12 (by omega) (by omega) h0 h1) z)
  have g0 := fEv_n (f := f) (i := 12 * hh + V 6 hh) (q := q) (t := 0) (by omega)
  have g1 := fEv_n (f := f) (i := 12 * hh + V 6 hh) (q := q) (t := 1) (by omega)
  have g2 := fEv_n (f := f) (i := 12 * hh + V 6 hh) (q := q) (t := 2) (by omega)
  have g3 := fEv_n (f := f) (i := 12 * hh + V 6 hh) (q := q) (t := 3) (by omega)
  have g4 := fEv_n (f := f) (i := 12 * hh + V 6 hh) (q := q) (t := 4) (by omega)
  have g5 := fEv_n (f := f) (i := 12 * hh + V 6 hh) (q := q) (t := 5) (by omega)
  have g6 := fEv_n (f := f) (i := 12 * hh + V 6 hh) (q := q) (t := 6) (by omega)
  have g7 := fEv_n (f := f) (i := 12 * hh + V 6 hh) (q := q) (t := 7) (by omega)
  have g8 := fEv_n (f := f) (i := 12 * hh + V 6 hh) (q := q) (t := 8) (by omega)
  have other : ∀ i j : Int, i ≠ hh → 0 ≤ i → i < V 0 0 → 0 ≤ j → j < V 6 i → 12 * i + j ≠ 12 * hh + V 6 hh := fun i j hn a b c e => by have := (hV.h a b).2.2.2.2.2; omega
  refine ⟨⟨hV2, hX.f x (o 0 0 (dA 0 (by omega)) (by omega) (by omega)), ?_, fun i p pq => ?_, ?_, ?_, ?_⟩, hY.f x (o 6 0 (dA 6 (by omega)) (by omega) (by omega)), fun i p pq => ?_, ?_⟩
  · rw [g0, g1]
    exact tnF hT hV2 x (o 1 0 (dA 1 (by omega)) (by omega) (by omega)) (o 2 0 (dA 2 (by omega)) (by omega) (by omega)) (fun i p q => o 10 i (dH 10 (by omega) (by omega) p q) (by omega) (by omega)) rfl rfl rfl rfl rfl rfl
  · rw [g1, g2]
    by_cases z : i = hh
    · subst z
      have e := nIns_mk (V := V) (W := sAd V i d k v) (f9 := f 9) (g9 := fEv f (12 * i + V 6 i) q 9) (h := i) (d := d) (k := k) (v := v) (q := q) (N := N i) (fun j hj => mkE_ad (by have := (hN i h0 h1).2.1 j hj; omega)) (by unfold mkE; rw [sAd_7, sAd_8, sAd_9, if_pos rfl, if_pos rfl, if_pos rfl]; unfold fEv; rw [if_pos ⟨rfl, rfl⟩]) (hN i h0 h1).1
      show Evs G H1 (f 1 i) (f 2 i) (mkL (sAd V i d k v) (fEv f (12 * i + V 6 i) q 9) i (uf N i (nIns V (f 9) i (N i) d) i))
      rw [uf_s, ← e]
      exact hc
    · show Evs G H1 (f 1 i) (f 2 i) (mkL (sAd V hh d k v) (fEv f (12 * hh + V 6 hh) q 9) i (uf N hh (nIns V (f 9) hh (N hh) d) i))
      rw [uf_n _ _ z, mkL_congr (fun j hj => mkE_ad (other i j z p pq ((hN i p pq).2.1 j hj).1 ((hN i p pq).2.1 j hj).2))]
      exact evF (hE i p pq) x (o 11 i (dH 11 (by omega) (by omega) p pq) (by omega) (by omega)) (o 12 i (dH 12 (by omega) (by omega) p pq) (by omega) (by omega)) (ev_out_of (S := fun z => z = f 1 hh ∨ z = f 2 hh) hN (fun i z => o 19 i z (by omega) (by omega)) p pq)
  · rw [g3, g4, g5]
    exact liF hL hV2 x (o 3 0 (dA 3 (by omega)) (by omega) (by omega)) (o 4 0 (dA 4 (by omega)) (by omega) (by omega)) (fun i p q => ⟨o 13 i (dL 13 (by omega) (by omega) p q) (by omega) (by omega), o 14 i (dL 14 (by omega) (by omega) p q) (by omega) (by omega)⟩) (fun i p q => o 15 i (dU p q) (by omega) (by omega)) rfl rfl rfl rfl
  · rw [g6]; exact hBa.f x (o 5 0 (dA 5 (by omega)) (by omega) (by omega))
  · rw [g6, g7, g8]
    exact fun y p q => bkF (hBk y p q) hV2 x (o 16 y (dB 16 (by omega) (by omega) p q) (by omega) (by omega)) (o 17 y (dB 17 (by omega) (by omega) p q) (by omega) (by omega)) (o 18 y (dB 18 (by omega) (by omega) p q) (by omega) (by omega)) rfl rfl rfl (fun _ _ _ => rfl) (fun _ _ _ => rfl)
  · by_cases z : i = hh
    · subst z
      rw [uf_s]
      exact (hN i h0 h1).ins (fun j c e => by rw [sAd_7, if_neg (by omega)]) (by rw [sAd_7, if_pos rfl]) (by rw [sAd_6, if_pos rfl])
    · rw [uf_n _ _ z]
      have n := hN i p pq
      have e6 : sAd V hh d k v 6 i = V 6 i := by rw [sAd_6, if_neg z]
      have e7 : ∀ j, 0 ≤ j → j < V 6 i → sAd V hh d k v 7 (12 * i + j) = V 7 (12 * i + j) := fun j c e => by rw [sAd_7, if_neg (other i j z p pq c e)]
      refine ⟨by rw [e6]; exact n.1, fun j hj => by rw [e6]; exact n.2.1 j hj, ?_, fun D => ?_⟩
      · exact List.Pairwise.imp_of_mem (fun {y1 y2} hy1 hy2 w => by rw [e7 y1 (n.2.1 y1 hy1).1 (n.2.1 y1 hy1).2, e7 y2 (n.2.1 y2 hy2).1 (n.2.1 y2 hy2).2]; exact w) n.2.2.1
      · rw [e6, filter_same (fun j hj => by rw [e7 j (n.2.1 j hj).1 (n.2.1 j hj).2]) (q := fun j => decide (V 7 (12 * i + j) = D)), n.2.2.2 D]
        exact (filter_same (fun j hj => by have := tld_mem.mp hj; rw [e7 j this.1 this.2])).symm
  · -- apart
    have old : ∀ t i, dom (sAd V hh d k v) t i → (dom V t i ∧ adr a (fEv f (12 * hh + V 6 hh) q) t i = adr a f t i) ∨ (t = 19 ∧ i = 12 * hh + V 6 hh ∧ adr a (fEv f (12 * hh + V 6 hh) q) t i = q) := by
      intro t i hd
      have ne : ∀ t, t ≠ 19 → adr a (fEv f (12 * hh + V 6 hh) q) t i = adr a f t i := fun t ht => by
        unfold adr
        by_cases w : t < 10
        · rw [if_pos w, if_pos w]
        · rw [if_neg w, if_neg w, fEv_n (by omega)]
      rcases hd with z | z | z | z | z | z
      · exact Or.inl ⟨Or.inl z, ne t (by omega)⟩
      · exact Or.inl ⟨Or.inr (Or.inl z), ne t (by omega)⟩
      · exact Or.inl ⟨Or.inr (Or.inr (Or.inl z)), ne t (by omega)⟩
      · exact Or.inl ⟨Or.inr (Or.inr (Or.inr (Or.inl z))), ne t (by omega)⟩
      · exact Or.inl ⟨Or.inr (Or.inr (Or.inr (Or.inr (Or.inl z)))), ne t (by omega)⟩
      · obtain ⟨rfl, i', e, z1, z2, rfl⟩ := z
        have z1' : 0 ≤ i' ∧ i' < V 0 0 := z1
        rw [sAd_6] at z2
        by_cases w : 12 * i' + e = 12 * hh + V 6 hh
        · refine Or.inr ⟨rfl, w, ?_⟩
          show fEv f (12 * hh + V 6 hh) q 9 (12 * i' + e) = q
          unfold fEv
          rw [if_pos ⟨rfl, w⟩]
        · refine Or.inl ⟨dE z1'.1 z1'.2 z2.1 ?_, ?_⟩
          · by_cases y : i' = hh
            · subst y
              rw [if_pos rfl] at z2
              omega
            · rw [if_neg y] at z2
              exact z2.2
          · show fEv f (12 * hh + V 6 hh) q 9 (12 * i' + e) = f 9 (12 * i' + e)
            unfold fEv
            rw [if_neg (fun y => w y.2)]
    intro t i t' i' h1 h2 he
    rcases old t i h1 with ⟨d1, e1⟩ | ⟨b1, c1, e1⟩ <;> rcases old t' i' h2 with ⟨d2, e2⟩ | ⟨b2, c2, e2⟩
    · rw [e1, e2] at he; exact hI t i t' i' d1 d2 he
    · rw [e1, e2] at he; have := lt t i d1; omega
    · rw [e1, e2] at he; have := lt t' i' d2; omega
    · exact ⟨by omega, by omega⟩
end STEPS2
