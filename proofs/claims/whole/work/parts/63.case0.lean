set_option maxHeartbeats 4000000 in
set_option maxRecDepth 100000 in
theorem lw_k_house {p : Program} {l : Launch} {e : Env} {s : State} {m : MethodId} {below : List Frame} {meth : Method} {c : Code} {Q : State → Prop} {G : GG} {a ad : Nat → Nat} {b L : Nat} {xs : Nat → Int32} (hL : L ≤ 3072) (C0 : lw_At p s m meth c b L xs) (hK : KK G s) (hD : Dj ad) (hd : ∀ i, i ≤ 18 → s.heap.size ≤ ad i) {i : Int} (h0 : 0 ≤ i) (h1 : i + 6 ≤ (L : Int)) {H : Heap} {locs : List Loc} {cells slots : Nat} (hf : cells + 40 ≤ 600000 ∧ slots + 160 ≤ 7302250) (hW : LW G s a ad H locs) {ls : Array Slot} (hl : lv_has ls 4 [(0, .ref b), (1, .ref (a 0)), (2, .ref (ad 0)), (3, .int (J i))]) (kk : ∀ (H1 : Heap) (locs1 : List Loc), LW G s a ad H1 locs1 → W p l e room_1 s m #[Value.ref b] below meth c H1 locs1 (cells + 40) (slots + 160) Q (F0 m 821 ls [])) : W p l e room_1 s m #[Value.ref b] below meth c H locs cells slots Q (F0 m 120 ls []) := by
  obtain ⟨hx, hb, hr, hml, hown, hts0, hX, hbl, hlocks, hgv⟩ := C0
  have hts : ∀ w ∈ wsL_law, w.before #[Value.ref b] s = true := fun w h => hts0 w (wsL_law_in w h)
  have hown : s.vm.findClass RL = some m.cls := hown
  obtain ⟨hS, V, f, N, u, ys, fo, am, zs, hR, hM, hZ, hO⟩ := hW
  have hV : Iv V := hR.1.1
  have hn := LA.new hM hS.1
  refine lv_aload_n hx hb dL_law_120 rfl (lv_at hl 1 rfl) ?_
  refine lv_aload_n hx hb dL_law_121 rfl (lv_at hl 0 rfl) ?_
  refine lv_iload_n hx hb dL_law_122 rfl (lv_at hl 3 rfl) ?_
  refine j_const hx hb dL_law_123 ?_
  refine j_add hx hb dL_law_124 ?_
  refine j_sld hx hb hX hbl hS hL (by omega) (by omega) dL_law_125 ?_
  refine lv_aload_n hx hb dL_law_126 rfl (lv_at hl 0 rfl) ?_
  refine lv_iload_n hx hb dL_law_127 rfl (lv_at hl 3 rfl) ?_
  refine j_const hx hb dL_law_128 ?_
  refine j_add hx hb dL_law_129 ?_
  refine j_sld hx hb hX hbl hS hL (by omega) (by omega) dL_law_130 ?_
  refine lv_aload_n hx hb dL_law_131 rfl (lv_at hl 0 rfl) ?_
  refine lv_iload_n hx hb dL_law_132 rfl (lv_at hl 3 rfl) ?_
  refine j_const hx hb dL_law_133 ?_
  refine j_add hx hb dL_law_134 ?_
  refine j_sld hx hb hX hbl hS hL (by omega) (by omega) dL_law_135 ?_
  refine lv_aload_n hx hb dL_law_136 rfl (lv_at hl 0 rfl) ?_
  refine lv_iload_n hx hb dL_law_137 rfl (lv_at hl 3 rfl) ?_
  refine j_const hx hb dL_law_138 ?_
  refine j_add hx hb dL_law_139 ?_
  refine j_sld hx hb hX hbl hS hL (by omega) (by omega) dL_law_140 ?_
  refine lv_aload_n hx hb dL_law_141 rfl (lv_at hl 0 rfl) ?_
  refine lv_iload_n hx hb dL_law_142 rfl (lv_at hl 3 rfl) ?_
  refine j_const hx hb dL_law_143 ?_
  refine j_add hx hb dL_law_144 ?_
  refine j_sld hx hb hX hbl hS hL (by omega) (by omega) dL_law_145 ?_
  refine e_V (A := NewS s) (ci := 8) (b := a 0) (As := [.int (J (sx xs (i + 1))), .int (J (sx xs (i + 2))), .int (J (sx xs (i + 3))), .int (J (sx xs (i + 4))), .int (J (sx xs (i + 5)))]) (rest := []) hx hb hml hown hts hK hl.1 (c_X8_house l G (LA s ad) a f N u ys V (sx xs (i + 1)) (sx xs (i + 2)) (sx xs (i + 3)) (sx xs (i + 4)) (sx xs (i + 5)) H.size hO hn (hZ (V 0 0) (Int.le_refl _)) (sx_rng _ _) (sx_rng _ _) (sx_rng _ _) (sx_rng _ _) (sx_rng _ _)) (cwV 5 hts gL_law_X8_house rfl rfl rfl (by decide +kernel) ⟨Nat.le_of_ble_eq_true rfl, Nat.le_of_ble_eq_true rfl⟩) hR.1.2.1 rfl ⟨rfl, hR⟩ rfl rfl (Nat.le_of_ble_eq_true rfl) dL_law_146 ⟨by show cells + 3 ≤ 600000; omega, by show slots + 21 ≤ 7302250; omega⟩ hS.2.2 (fun x hx => hx.1) (fun H1 lo1 hp1 hl1 => ?_)
  obtain ⟨hS1, hM1, f1, N1, u1, ys1, hR1, hO1⟩ := lw_mid hd hS hM hp1 hl1
  refine lv_aload_n hx hb dL_law_149 rfl (lv_at hl 2 rfl) ?_
  refine lv_aload_n hx hb dL_law_150 rfl (lv_at hl 0 rfl) ?_
  refine lv_iload_n hx hb dL_law_151 rfl (lv_at hl 3 rfl) ?_
  refine j_const hx hb dL_law_152 ?_
  refine j_add hx hb dL_law_153 ?_
  refine j_sld hx hb hX hbl hS1 hL (by omega) (by omega) dL_law_154 ?_
  refine lv_aload_n hx hb dL_law_155 rfl (lv_at hl 0 rfl) ?_
  refine lv_iload_n hx hb dL_law_156 rfl (lv_at hl 3 rfl) ?_
  refine j_const hx hb dL_law_157 ?_
  refine j_add hx hb dL_law_158 ?_
  refine j_sld hx hb hX hbl hS1 hL (by omega) (by omega) dL_law_159 ?_
  refine lv_aload_n hx hb dL_law_160 rfl (lv_at hl 0 rfl) ?_
  refine lv_iload_n hx hb dL_law_161 rfl (lv_at hl 3 rfl) ?_
  refine j_const hx hb dL_law_162 ?_
  refine j_add hx hb dL_law_163 ?_
  refine j_sld hx hb hX hbl hS1 hL (by omega) (by omega) dL_law_164 ?_
  refine lv_aload_n hx hb dL_law_165 rfl (lv_at hl 0 rfl) ?_
  refine lv_iload_n hx hb dL_law_166 rfl (lv_at hl 3 rfl) ?_
  refine j_const hx hb dL_law_167 ?_
  refine j_add hx hb dL_law_168 ?_
  refine j_sld hx hb hX hbl hS1 hL (by omega) (by omega) dL_law_169 ?_
  refine lv_aload_n hx hb dL_law_170 rfl (lv_at hl 0 rfl) ?_
  refine lv_iload_n hx hb dL_law_171 rfl (lv_at hl 3 rfl) ?_
  refine j_const hx hb dL_law_172 ?_
  refine j_add hx hb dL_law_173 ?_
  refine j_sld hx hb hX hbl hS1 hL (by omega) (by omega) dL_law_174 ?_
  refine e_V (A := NewS s) (ci := 9) (b := ad 0) (As := [.int (J (sx xs (i + 1))), .int (J (sx xs (i + 2))), .int (J (sx xs (i + 3))), .int (J (sx xs (i + 4))), .int (J (sx xs (i + 5)))]) (rest := [_]) hx hb hml hown hts hK hl.1 (c_X9_house l G ad V fo am zs (sx xs (i + 1)) (sx xs (i + 2)) (sx xs (i + 3)) (sx xs (i + 4)) (sx xs (i + 5)) H1.size hV hD (sx_rng _ _) (sx_rng _ _) (sx_rng _ _) (sx_rng _ _) (sx_rng _ _)) (cwV 5 hts gL_law_X9_house rfl rfl rfl (by decide +kernel) ⟨Nat.le_of_ble_eq_true rfl, Nat.le_of_ble_eq_true rfl⟩) hM1.1 rfl ⟨rfl, hM1⟩ rfl rfl (Nat.le_of_ble_eq_true rfl) dL_law_175 ⟨by show cells + 3 + 0 ≤ 600000; omega, by show slots + 21 + 0 ≤ 7302250; omega⟩ hS1.2.2 (fun x hx => hx.elim (fun ⟨j, hj, z⟩ => by rw [z]; exact hd j hj) (fun z => Nat.le_trans hS1.1 z)) (fun H2 lo2 hp2 hl2 => ?_)
  refine j_icmpT (tgt := 821) hx hb rfl dL_law_178 (by decide) ?_
  refine W.widen (k := cells + 40) (n := slots + 160) (by omega) (by omega) ?_
  exact kk H2 lo2 (lw_fin hd hS1 hR1 hO1 (hZ.ho _) hp2 hl2)
set_option maxHeartbeats 4000000 in
set_option maxRecDepth 100000 in
theorem lw_k_rent {p : Program} {l : Launch} {e : Env} {s : State} {m : MethodId} {below : List Frame} {meth : Method} {c : Code} {Q : State → Prop} {G : GG} {a ad : Nat → Nat} {b L : Nat} {xs : Nat → Int32} (hL : L ≤ 3072) (C0 : lw_At p s m meth c b L xs) (hK : KK G s) (hD : Dj ad) (hd : ∀ i, i ≤ 18 → s.heap.size ≤ ad i) {i : Int} (h0 : 0 ≤ i) (h1 : i + 6 ≤ (L : Int)) {H : Heap} {locs : List Loc} {cells slots : Nat} (hf : cells + 40 ≤ 600000 ∧ slots + 160 ≤ 7302250) (hW : LW G s a ad H locs) {ls : Array Slot} (hl : lv_has ls 4 [(0, .ref b), (1, .ref (a 0)), (2, .ref (ad 0)), (3, .int (J i))]) (kk : ∀ (H1 : Heap) (locs1 : List Loc), LW G s a ad H1 locs1 → W p l e room_1 s m #[Value.ref b] below meth c H1 locs1 (cells + 40) (slots + 160) Q (F0 m 821 ls [])) : W p l e room_1 s m #[Value.ref b] below meth c H locs cells slots Q (F0 m 183 ls []) := by
  obtain ⟨hx, hb, hr, hml, hown, hts0, hX, hbl, hlocks, hgv⟩ := C0
  have hts : ∀ w ∈ wsL_law, w.before #[Value.ref b] s = true := fun w h => hts0 w (wsL_law_in w h)
  have hown : s.vm.findClass RL = some m.cls := hown
  obtain ⟨hS, V, f, N, u, ys, fo, am, zs, hR, hM, hZ, hO⟩ := hW
  have hV : Iv V := hR.1.1
  have hn := LA.new hM hS.1
  refine lv_aload_n hx hb dL_law_183 rfl (lv_at hl 1 rfl) ?_
  refine lv_aload_n hx hb dL_law_184 rfl (lv_at hl 0 rfl) ?_
  refine lv_iload_n hx hb dL_law_185 rfl (lv_at hl 3 rfl) ?_
  refine j_const hx hb dL_law_186 ?_
  refine j_add hx hb dL_law_187 ?_
  refine j_sld hx hb hX hbl hS hL (by omega) (by omega) dL_law_188 ?_
  refine lv_aload_n hx hb dL_law_189 rfl (lv_at hl 0 rfl) ?_
  refine lv_iload_n hx hb dL_law_190 rfl (lv_at hl 3 rfl) ?_
  refine j_const hx hb dL_law_191 ?_
  refine j_add hx hb dL_law_192 ?_
  refine j_sld hx hb hX hbl hS hL (by omega) (by omega) dL_law_193 ?_
  refine e_V (A := NewS s) (ci := 8) (b := a 0) (As := [.int (J (sx xs (i + 1))), .int (J (sx xs (i + 2)))]) (rest := []) hx hb hml hown hts hK hl.1 (c_X8_rent l G (LA s ad) a f N u ys V (sx xs (i + 1)) (sx xs (i + 2)) H.size hO hn (sx_rng _ _) (sx_rng _ _)) (cwV 2 hts gL_law_X8_rent rfl rfl rfl (by decide +kernel) ⟨Nat.le_of_ble_eq_true rfl, Nat.le_of_ble_eq_true rfl⟩) hR.1.2.1 rfl ⟨rfl, hR⟩ rfl rfl (Nat.le_of_ble_eq_true rfl) dL_law_194 ⟨by show cells + 0 ≤ 600000; omega, by show slots + 0 ≤ 7302250; omega⟩ hS.2.2 (fun x hx => hx.1) (fun H1 lo1 hp1 hl1 => ?_)
  obtain ⟨hS1, hM1, f1, N1, u1, ys1, hR1, hO1⟩ := lw_mid hd hS hM hp1 hl1
  refine lv_aload_n hx hb dL_law_197 rfl (lv_at hl 2 rfl) ?_
  refine lv_aload_n hx hb dL_law_198 rfl (lv_at hl 0 rfl) ?_
  refine lv_iload_n hx hb dL_law_199 rfl (lv_at hl 3 rfl) ?_
  refine j_const hx hb dL_law_200 ?_
  refine j_add hx hb dL_law_201 ?_
  refine j_sld hx hb hX hbl hS1 hL (by omega) (by omega) dL_law_202 ?_
  refine lv_aload_n hx hb dL_law_203 rfl (lv_at hl 0 rfl) ?_
  refine lv_iload_n hx hb dL_law_204 rfl (lv_at hl 3 rfl) ?_
  refine j_const hx hb dL_law_205 ?_
  refine j_add hx hb dL_law_206 ?_
  refine j_sld hx hb hX hbl hS1 hL (by omega) (by omega) dL_law_207 ?_
  refine e_V (A := NewS s) (ci := 9) (b := ad 0) (As := [.int (J (sx xs (i + 1))), .int (J (sx xs (i + 2)))]) (rest := [_]) hx hb hml hown hts hK hl.1 (c_X9_rent l G ad V fo am zs (sx xs (i + 1)) (sx xs (i + 2)) H1.size hV hD (sx_rng _ _) (sx_rng _ _)) (cwV 2 hts gL_law_X9_rent rfl rfl rfl (by decide +kernel) ⟨Nat.le_of_ble_eq_true rfl, Nat.le_of_ble_eq_true rfl⟩) hM1.1 rfl ⟨rfl, hM1⟩ rfl rfl (Nat.le_of_ble_eq_true rfl) dL_law_208 ⟨by show cells + 0 + 0 ≤ 600000; omega, by show slots + 0 + 0 ≤ 7302250; omega⟩ hS1.2.2 (fun x hx => hx.elim (fun ⟨j, hj, z⟩ => by rw [z]; exact hd j hj) (fun z => Nat.le_trans hS1.1 z)) (fun H2 lo2 hp2 hl2 => ?_)
  refine j_icmpT (tgt := 821) hx hb rfl dL_law_211 (by decide) ?_
  refine W.widen (k := cells + 40) (n := slots + 160) (by omega) (by omega) ?_
  exact kk H2 lo2 (lw_fin hd hS1 hR1 hO1 (hZ.rent _ _ _) hp2 hl2)
set_option maxHeartbeats 4000000 in
set_option maxRecDepth 100000 in
theorem lw_k_unit {p : Program} {l : Launch} {e : Env} {s : State} {m : MethodId} {below : List Frame} {meth : Method} {c : Code} {Q : State → Prop} {G : GG} {a ad : Nat → Nat} {b L : Nat} {xs : Nat → Int32} (hL : L ≤ 3072) (C0 : lw_At p s m meth c b L xs) (hK : KK G s) (hD : Dj ad) (hd : ∀ i, i ≤ 18 → s.heap.size ≤ ad i) {i : Int} (h0 : 0 ≤ i) (h1 : i + 6 ≤ (L : Int)) {H : Heap} {locs : List Loc} {cells slots : Nat} (hf : cells + 40 ≤ 600000 ∧ slots + 160 ≤ 7302250) (hW : LW G s a ad H locs) {ls : Array Slot} (hl : lv_has ls 4 [(0, .ref b), (1, .ref (a 0)), (2, .ref (ad 0)), (3, .int (J i))]) (kk : ∀ (H1 : Heap) (locs1 : List Loc), LW G s a ad H1 locs1 → W p l e room_1 s m #[Value.ref b] below meth c H1 locs1 (cells + 40) (slots + 160) Q (F0 m 821 ls [])) : W p l e room_1 s m #[Value.ref b] below meth c H locs cells slots Q (F0 m 216 ls []) := by
  obtain ⟨hx, hb, hr, hml, hown, hts0, hX, hbl, hlocks, hgv⟩ := C0
  have hts : ∀ w ∈ wsL_law, w.before #[Value.ref b] s = true := fun w h => hts0 w (wsL_law_in w h)
  have hown : s.vm.findClass RL = some m.cls := hown
  obtain ⟨hS, V, f, N, u, ys, fo, am, zs, hR, hM, hZ, hO⟩ := hW
  have hV : Iv V := hR.1.1
  have hn := LA.new hM hS.1
  refine lv_aload_n hx hb dL_law_216 rfl (lv_at hl 1 rfl) ?_
  refine lv_aload_n hx hb dL_law_217 rfl (lv_at hl 0 rfl) ?_
  refine lv_iload_n hx hb dL_law_218 rfl (lv_at hl 3 rfl) ?_
  refine j_const hx hb dL_law_219 ?_
  refine j_add hx hb dL_law_220 ?_
  refine j_sld hx hb hX hbl hS hL (by omega) (by omega) dL_law_221 ?_
  refine lv_aload_n hx hb dL_law_222 rfl (lv_at hl 0 rfl) ?_
  refine lv_iload_n hx hb dL_law_223 rfl (lv_at hl 3 rfl) ?_
  refine j_const hx hb dL_law_224 ?_
  refine j_add hx hb dL_law_225 ?_
  refine j_sld hx hb hX hbl hS hL (by omega) (by omega) dL_law_226 ?_
  refine lv_aload_n hx hb dL_law_227 rfl (lv_at hl 0 rfl) ?_
  refine lv_iload_n hx hb dL_law_228 rfl (lv_at hl 3 rfl) ?_
  refine j_const hx hb dL_law_229 ?_
  refine j_add hx hb dL_law_230 ?_
  refine j_sld hx hb hX hbl hS hL (by omega) (by omega) dL_law_231 ?_
  refine e_V (A := NewS s) (ci := 8) (b := a 0) (As := [.int (J (sx xs (i + 1))), .int (J (sx xs (i + 2))), .int (J (sx xs (i + 3)))]) (rest := []) hx hb hml hown hts hK hl.1 (c_X8_unit l G (LA s ad) a f N u ys V (sx xs (i + 1)) (sx xs (i + 2)) (sx xs (i + 3)) H.size hO hn (sx_rng _ _) (sx_rng _ _) (sx_rng _ _)) (cwV 3 hts gL_law_X8_unit rfl rfl rfl (by decide +kernel) ⟨Nat.le_of_ble_eq_true rfl, Nat.le_of_ble_eq_true rfl⟩) hR.1.2.1 rfl ⟨rfl, hR⟩ rfl rfl (Nat.le_of_ble_eq_true rfl) dL_law_232 ⟨by show cells + 1 ≤ 600000; omega, by show slots + 4 ≤ 7302250; omega⟩ hS.2.2 (fun x hx => hx.1) (fun H1 lo1 hp1 hl1 => ?_)
  obtain ⟨hS1, hM1, f1, N1, u1, ys1, hR1, hO1⟩ := lw_mid hd hS hM hp1 hl1
  refine lv_aload_n hx hb dL_law_235 rfl (lv_at hl 2 rfl) ?_
  refine lv_aload_n hx hb dL_law_236 rfl (lv_at hl 0 rfl) ?_
  refine lv_iload_n hx hb dL_law_237 rfl (lv_at hl 3 rfl) ?_
  refine j_const hx hb dL_law_238 ?_
  refine j_add hx hb dL_law_239 ?_
  refine j_sld hx hb hX hbl hS1 hL (by omega) (by omega) dL_law_240 ?_
  refine lv_aload_n hx hb dL_law_241 rfl (lv_at hl 0 rfl) ?_
  refine lv_iload_n hx hb dL_law_242 rfl (lv_at hl 3 rfl) ?_
  refine j_const hx hb dL_law_243 ?_
  refine j_add hx hb dL_law_244 ?_
  refine j_sld hx hb hX hbl hS1 hL (by omega) (by omega) dL_law_245 ?_
  refine lv_aload_n hx hb dL_law_246 rfl (lv_at hl 0 rfl) ?_
  refine lv_iload_n hx hb dL_law_247 rfl (lv_at hl 3 rfl) ?_
  refine j_const hx hb dL_law_248 ?_
  refine j_add hx hb dL_law_249 ?_
  refine j_sld hx hb hX hbl hS1 hL (by omega) (by omega) dL_law_250 ?_
  refine e_V (A := NewS s) (ci := 9) (b := ad 0) (As := [.int (J (sx xs (i + 1))), .int (J (sx xs (i + 2))), .int (J (sx xs (i + 3)))]) (rest := [_]) hx hb hml hown hts hK hl.1 (c_X9_unit l G ad V fo am zs (sx xs (i + 1)) (sx xs (i + 2)) (sx xs (i + 3)) H1.size hV hD (sx_rng _ _) (sx_rng _ _) (sx_rng _ _)) (cwV 3 hts gL_law_X9_unit rfl rfl rfl (by decide +kernel) ⟨Nat.le_of_ble_eq_true rfl, Nat.le_of_ble_eq_true rfl⟩) hM1.1 rfl ⟨rfl, hM1⟩ rfl rfl (Nat.le_of_ble_eq_true rfl) dL_law_251 ⟨by show cells + 1 + 0 ≤ 600000; omega, by show slots + 4 + 0 ≤ 7302250; omega⟩ hS1.2.2 (fun x hx => hx.elim (fun ⟨j, hj, z⟩ => by rw [z]; exact hd j hj) (fun z => Nat.le_trans hS1.1 z)) (fun H2 lo2 hp2 hl2 => ?_)
  refine j_icmpT (tgt := 821) hx hb (an_unit hV _ _ _) dL_law_254 (by decide) ?_
  refine W.widen (k := cells + 40) (n := slots + 160) (by omega) (by omega) ?_
  exact kk H2 lo2 (lw_fin hd hS1 hR1 hO1 hZ hp2 hl2)
set_option maxHeartbeats 4000000 in
set_option maxRecDepth 100000 in
theorem lw_k_tested {p : Program} {l : Launch} {e : Env} {s : State} {m : MethodId} {below : List Frame} {meth : Method} {c : Code} {Q : State → Prop} {G : GG} {a ad : Nat → Nat} {b L : Nat} {xs : Nat → Int32} (hL : L ≤ 3072) (C0 : lw_At p s m meth c b L xs) (hK : KK G s) (hD : Dj ad) (hd : ∀ i, i ≤ 18 → s.heap.size ≤ ad i) {i : Int} (h0 : 0 ≤ i) (h1 : i + 6 ≤ (L : Int)) {H : Heap} {locs : List Loc} {cells slots : Nat} (hf : cells + 40 ≤ 600000 ∧ slots + 160 ≤ 7302250) (hW : LW G s a ad H locs) {ls : Array Slot} (hl : lv_has ls 4 [(0, .ref b), (1, .ref (a 0)), (2, .ref (ad 0)), (3, .int (J i))]) (kk : ∀ (H1 : Heap) (locs1 : List Loc), LW G s a ad H1 locs1 → W p l e room_1 s m #[Value.ref b] below meth c H1 locs1 (cells + 40) (slots + 160) Q (F0 m 821 ls [])) : W p l e room_1 s m #[Value.ref b] below meth c H locs cells slots Q (F0 m 259 ls []) := by
  obtain ⟨hx, hb, hr, hml, hown, hts0, hX, hbl, hlocks, hgv⟩ := C0
  have hts : ∀ w ∈ wsL_law, w.before #[Value.ref b] s = true := fun w h => hts0 w (wsL_law_in w h)
  have hown : s.vm.findClass RL = some m.cls := hown
  obtain ⟨hS, V, f, N, u, ys, fo, am, zs, hR, hM, hZ, hO⟩ := hW
  have hV : Iv V := hR.1.1
  have hn := LA.new hM hS.1
  refine lv_aload_n hx hb dL_law_259 rfl (lv_at hl 1 rfl) ?_
  refine lv_aload_n hx hb dL_law_260 rfl (lv_at hl 0 rfl) ?_
  refine lv_iload_n hx hb dL_law_261 rfl (lv_at hl 3 rfl) ?_
  refine j_const hx hb dL_law_262 ?_
  refine j_add hx hb dL_law_263 ?_
  refine j_sld hx hb hX hbl hS hL (by omega) (by omega) dL_law_264 ?_
  refine e_V (A := NewS s) (ci := 8) (b := a 0) (As := [.int (J (sx xs (i + 1)))]) (rest := []) hx hb hml hown hts hK hl.1 (c_X8_tested l G (LA s ad) a f N u ys V (sx xs (i + 1)) H.size hO hn (sx_rng _ _)) (cwV 1 hts gL_law_X8_tested rfl rfl rfl (by decide +kernel) ⟨Nat.le_of_ble_eq_true rfl, Nat.le_of_ble_eq_true rfl⟩) hR.1.2.1 rfl ⟨rfl, hR⟩ rfl rfl (Nat.le_of_ble_eq_true rfl) dL_law_265 ⟨by show cells + 1 ≤ 600000; omega, by show slots + 4 ≤ 7302250; omega⟩ hS.2.2 (fun x hx => hx.1) (fun H1 lo1 hp1 hl1 => ?_)
  obtain ⟨hS1, hM1, f1, N1, u1, ys1, hR1, hO1⟩ := lw_mid hd hS hM hp1 hl1
  refine lv_aload_n hx hb dL_law_268 rfl (lv_at hl 2 rfl) ?_
  refine lv_aload_n hx hb dL_law_269 rfl (lv_at hl 0 rfl) ?_
  refine lv_iload_n hx hb dL_law_270 rfl (lv_at hl 3 rfl) ?_
  refine j_const hx hb dL_law_271 ?_
  refine j_add hx hb dL_law_272 ?_
  refine j_sld hx hb hX hbl hS1 hL (by omega) (by omega) dL_law_273 ?_
  refine e_V (A := NewS s) (ci := 9) (b := ad 0) (As := [.int (J (sx xs (i + 1)))]) (rest := [_]) hx hb hml hown hts hK hl.1 (c_X9_tested l G ad V fo am zs (sx xs (i + 1)) H1.size hV hD (sx_rng _ _)) (cwV 1 hts gL_law_X9_tested rfl rfl rfl (by decide +kernel) ⟨Nat.le_of_ble_eq_true rfl, Nat.le_of_ble_eq_true rfl⟩) hM1.1 rfl ⟨rfl, hM1⟩ rfl rfl (Nat.le_of_ble_eq_true rfl) dL_law_274 ⟨by show cells + 1 + 0 ≤ 600000; omega, by show slots + 4 + 0 ≤ 7302250; omega⟩ hS1.2.2 (fun x hx => hx.elim (fun ⟨j, hj, z⟩ => by rw [z]; exact hd j hj) (fun z => Nat.le_trans hS1.1 z)) (fun H2 lo2 hp2 hl2 => ?_)
  refine j_icmpT (tgt := 821) hx hb (an_tested hV _) dL_law_277 (by decide) ?_
  refine W.widen (k := cells + 40) (n := slots + 160) (by omega) (by omega) ?_
  exact kk H2 lo2 (lw_fin hd hS1 hR1 hO1 hZ hp2 hl2)
set_option maxHeartbeats 4000000 in
set_option maxRecDepth 100000 in
theorem lw_k_list {p : Program} {l : Launch} {e : Env} {s : State} {m : MethodId} {below : List Frame} {meth : Method} {c : Code} {Q : State → Prop} {G : GG} {a ad : Nat → Nat} {b L : Nat} {xs : Nat → Int32} (hL : L ≤ 3072) (C0 : lw_At p s m meth c b L xs) (hK : KK G s) (hD : Dj ad) (hd : ∀ i, i ≤ 18 → s.heap.size ≤ ad i) {i : Int} (h0 : 0 ≤ i) (h1 : i + 6 ≤ (L : Int)) {H : Heap} {locs : List Loc} {cells slots : Nat} (hf : cells + 40 ≤ 600000 ∧ slots + 160 ≤ 7302250) (hW : LW G s a ad H locs) {ls : Array Slot} (hl : lv_has ls 4 [(0, .ref b), (1, .ref (a 0)), (2, .ref (ad 0)), (3, .int (J i))]) (kk : ∀ (H1 : Heap) (locs1 : List Loc), LW G s a ad H1 locs1 → W p l e room_1 s m #[Value.ref b] below meth c H1 locs1 (cells + 40) (slots + 160) Q (F0 m 821 ls [])) : W p l e room_1 s m #[Value.ref b] below meth c H locs cells slots Q (F0 m 282 ls []) := by
  obtain ⟨hx, hb, hr, hml, hown, hts0, hX, hbl, hlocks, hgv⟩ := C0
  have hts : ∀ w ∈ wsL_law, w.before #[Value.ref b] s = true := fun w h => hts0 w (wsL_law_in w h)
  have hown : s.vm.findClass RL = some m.cls := hown
  obtain ⟨hS, V, f, N, u, ys, fo, am, zs, hR, hM, hZ, hO⟩ := hW
  have hV : Iv V := hR.1.1
  have hn := LA.new hM hS.1
  refine lv_aload_n hx hb dL_law_282 rfl (lv_at hl 1 rfl) ?_
  refine lv_aload_n hx hb dL_law_283 rfl (lv_at hl 0 rfl) ?_
  refine lv_iload_n hx hb dL_law_284 rfl (lv_at hl 3 rfl) ?_
  refine j_const hx hb dL_law_285 ?_
  refine j_add hx hb dL_law_286 ?_
  refine j_sld hx hb hX hbl hS hL (by omega) (by omega) dL_law_287 ?_
  refine e_V (A := NewS s) (ci := 8) (b := a 0) (As := [.int (J (sx xs (i + 1)))]) (rest := []) hx hb hml hown hts hK hl.1 (c_X8_list l G (LA s ad) a f N u ys V (sx xs (i + 1)) H.size hO hn (an_UA hV) (sx_rng _ _)) (cwV 1 hts gL_law_X8_list rfl rfl rfl (by decide +kernel) ⟨Nat.le_of_ble_eq_true rfl, Nat.le_of_ble_eq_true rfl⟩) hR.1.2.1 rfl ⟨rfl, hR⟩ rfl rfl (Nat.le_of_ble_eq_true rfl) dL_law_288 ⟨by show cells + 20 ≤ 600000; omega, by show slots + 92 ≤ 7302250; omega⟩ hS.2.2 (fun x hx => hx.1) (fun H1 lo1 hp1 hl1 => ?_)
  obtain ⟨hS1, hM1, f1, N1, u1, ys1, hR1, hO1⟩ := lw_mid hd hS hM hp1 hl1
  refine lv_aload_n hx hb dL_law_291 rfl (lv_at hl 2 rfl) ?_
  refine lv_aload_n hx hb dL_law_292 rfl (lv_at hl 0 rfl) ?_
  refine lv_iload_n hx hb dL_law_293 rfl (lv_at hl 3 rfl) ?_
  refine j_const hx hb dL_law_294 ?_
  refine j_add hx hb dL_law_295 ?_
  refine j_sld hx hb hX hbl hS1 hL (by omega) (by omega) dL_law_296 ?_
  refine e_V (A := NewS s) (ci := 9) (b := ad 0) (As := [.int (J (sx xs (i + 1)))]) (rest := [_]) hx hb hml hown hts hK hl.1 (c_X9_list l G ad V fo am zs (sx xs (i + 1)) H1.size hV hD (sx_rng _ _)) (cwV 1 hts gL_law_X9_list rfl rfl rfl (by decide +kernel) ⟨Nat.le_of_ble_eq_true rfl, Nat.le_of_ble_eq_true rfl⟩) hM1.1 rfl ⟨rfl, hM1⟩ rfl rfl (Nat.le_of_ble_eq_true rfl) dL_law_297 ⟨by show cells + 20 + 0 ≤ 600000; omega, by show slots + 92 + 0 ≤ 7302250; omega⟩ hS1.2.2 (fun x hx => hx.elim (fun ⟨j, hj, z⟩ => by rw [z]; exact hd j hj) (fun z => Nat.le_trans hS1.1 z)) (fun H2 lo2 hp2 hl2 => ?_)
  refine j_icmpT (tgt := 821) hx hb rfl dL_law_300 (by decide) ?_
  refine W.widen (k := cells + 40) (n := slots + 160) (by omega) (by omega) ?_
  exact kk H2 lo2 (lw_fin hd hS1 hR1 hO1 (hZ.li _) hp2 hl2)
