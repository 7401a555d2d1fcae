section JROWS
variable {p : Program} {l : Launch} {e : Env} {R : Room} {s : State} {m : MethodId} {args : Array Value} {below : List Frame} {meth : Method} {c : Code} {H : Heap} {locs : List Loc} {cells slots : Nat} {Q : State → Prop}
variable {cc : ByteArray} {pc : Nat} {ls : Array Slot} {rest : List Value} {G : GG} {A : Nat → Prop} {a : Nat}
/-! constants, arithmetic -/
theorem j_const (hx : p.tables.exec = Jvm.exec) (hb : c.code = cc) {n : Int} (hdg : decode cc pc = .ok (.iconst n, 1)) (k : W p l e R s m args below meth c H locs cells slots Q (F0 m (pc + 1) ls (.int (J n) :: rest))) : W p l e R s m args below meth c H locs cells slots Q (F0 m pc ls rest) := lv_iconst hx hb hdg rfl k
theorem j_bi (hx : p.tables.exec = Jvm.exec) (hb : c.code = cc) {n : Int} (hdg : decode cc pc = .ok (.bipush n, 2)) (hv : (Int8.ofInt n).toInt32 = J n) (k : W p l e R s m args below meth c H locs cells slots Q (F0 m (pc + 2) ls (.int (J n) :: rest))) : W p l e R s m args below meth c H locs cells slots Q (F0 m pc ls rest) := lv_bipush hx hb hdg hv k
theorem j_si (hx : p.tables.exec = Jvm.exec) (hb : c.code = cc) {n : Int} (hdg : decode cc pc = .ok (.sipush n, 3)) (hv : (Int16.ofInt n).toInt32 = J n) (k : W p l e R s m args below meth c H locs cells slots Q (F0 m (pc + 3) ls (.int (J n) :: rest))) : W p l e R s m args below meth c H locs cells slots Q (F0 m pc ls rest) := lv_sipush hx hb hdg hv k
theorem j_add (hx : p.tables.exec = Jvm.exec) (hb : c.code = cc) {x y : Int} (hdg : decode cc pc = .ok (.iadd, 1)) (k : W p l e R s m args below meth c H locs cells slots Q (F0 m (pc + 1) ls (.int (J (x + y)) :: rest))) : W p l e R s m args below meth c H locs cells slots Q (F0 m pc ls (.int (J y) :: .int (J x) :: rest)) := lv_iadd hx hb hdg (by rw [J_add]; exact k)
theorem j_sub (hx : p.tables.exec = Jvm.exec) (hb : c.code = cc) {x y : Int} (hdg : decode cc pc = .ok (.isub, 1)) (k : W p l e R s m args below meth c H locs cells slots Q (F0 m (pc + 1) ls (.int (J (x - y)) :: rest))) : W p l e R s m args below meth c H locs cells slots Q (F0 m pc ls (.int (J y) :: .int (J x) :: rest)) := lv_isub hx hb hdg (by rw [J_sub]; exact k)
theorem j_mul (hx : p.tables.exec = Jvm.exec) (hb : c.code = cc) {x y : Int} (hdg : decode cc pc = .ok (.imul, 1)) (k : W p l e R s m args below meth c H locs cells slots Q (F0 m (pc + 1) ls (.int (J (x * y)) :: rest))) : W p l e R s m args below meth c H locs cells slots Q (F0 m pc ls (.int (J y) :: .int (J x) :: rest)) := lv_imul hx hb hdg (by rw [J_mul]; exact k)
theorem j_neg (hx : p.tables.exec = Jvm.exec) (hb : c.code = cc) {x : Int} (hdg : decode cc pc = .ok (.ineg, 1)) (k : W p l e R s m args below meth c H locs cells slots Q (F0 m (pc + 1) ls (.int (J (-x)) :: rest))) : W p l e R s m args below meth c H locs cells slots Q (F0 m pc ls (.int (J x) :: rest)) := lv_ineg hx hb hdg (by rw [J_neg]; exact k)
theorem j_div (hx : p.tables.exec = Jvm.exec) (hb : c.code = cc) {x y : Int} (h1 : 0 ≤ x) (h2 : x < 2147483648) (h3 : 0 < y) (h4 : y < 2147483648) (hdg : decode cc pc = .ok (.idiv, 1)) (k : W p l e R s m args below meth c H locs cells slots Q (F0 m (pc + 1) ls (.int (J (x / y)) :: rest))) : W p l e R s m args below meth c H locs cells slots Q (F0 m pc ls (.int (J y) :: .int (J x) :: rest)) :=
  lv_idiv hx hb hdg (fun q => by rw [show (0 : Int32) = J 0 from rfl, J_eq (by omega) h4 (by omega) (by omega)] at q; omega) (by rw [J_divN h1 h2 h3 h4]; exact k)
theorem j_tdiv (hx : p.tables.exec = Jvm.exec) (hb : c.code = cc) {x y : Int} (h1 : -2147483648 ≤ x) (h2 : x < 2147483648) (h3 : 0 < y) (h4 : y < 2147483648) (hdg : decode cc pc = .ok (.idiv, 1)) (k : W p l e R s m args below meth c H locs cells slots Q (F0 m (pc + 1) ls (.int (J (x.tdiv y)) :: rest))) : W p l e R s m args below meth c H locs cells slots Q (F0 m pc ls (.int (J y) :: .int (J x) :: rest)) :=
  lv_idiv hx hb hdg (fun q => by rw [show (0 : Int32) = J 0 from rfl, J_eq (by omega) h4 (by omega) (by omega)] at q; omega) (by rw [J_div h1 h2 (by omega) h4]; exact k)
theorem j_rem (hx : p.tables.exec = Jvm.exec) (hb : c.code = cc) {x y : Int} (h1 : 0 ≤ x) (h2 : x < 2147483648) (h3 : 0 < y) (h4 : y < 2147483648) (hdg : decode cc pc = .ok (.irem, 1)) (k : W p l e R s m args below meth c H locs cells slots Q (F0 m (pc + 1) ls (.int (J (x % y)) :: rest))) : W p l e R s m args below meth c H locs cells slots Q (F0 m pc ls (.int (J y) :: .int (J x) :: rest)) :=
  lv_irem hx hb hdg (fun q => by rw [show (0 : Int32) = J 0 from rfl, J_eq (by omega) h4 (by omega) (by omega)] at q; omega) (by rw [J_remN h1 h2 h3 h4]; exact k)
theorem j_i2l (hx : p.tables.exec = Jvm.exec) (hb : c.code = cc) {x : Int} (h1 : -2147483648 ≤ x) (h2 : x < 2147483648) (hdg : decode cc pc = .ok (.i2l, 1)) (k : W p l e R s m args below meth c H locs cells slots Q (F0 m (pc + 1) ls (.long (JL x) :: rest))) : W p l e R s m args below meth c H locs cells slots Q (F0 m pc ls (.int (J x) :: rest)) := lv_i2l hx hb hdg (J_i2l h1 h2) k
theorem j_l2i (hx : p.tables.exec = Jvm.exec) (hb : c.code = cc) {x : Int} (hdg : decode cc pc = .ok (.l2i, 1)) (k : W p l e R s m args below meth c H locs cells slots Q (F0 m (pc + 1) ls (.int (J x) :: rest))) : W p l e R s m args below meth c H locs cells slots Q (F0 m pc ls (.long (JL x) :: rest)) := lv_l2i hx hb hdg (J_l2i x) k
theorem j_ladd (hx : p.tables.exec = Jvm.exec) (hb : c.code = cc) {x y : Int} (hdg : decode cc pc = .ok (.ladd, 1)) (k : W p l e R s m args below meth c H locs cells slots Q (F0 m (pc + 1) ls (.long (JL (x + y)) :: rest))) : W p l e R s m args below meth c H locs cells slots Q (F0 m pc ls (.long (JL y) :: .long (JL x) :: rest)) := lv_ladd hx hb hdg (by rw [JL_add]; exact k)
theorem j_lmul (hx : p.tables.exec = Jvm.exec) (hb : c.code = cc) {x y : Int} (hdg : decode cc pc = .ok (.lmul, 1)) (k : W p l e R s m args below meth c H locs cells slots Q (F0 m (pc + 1) ls (.long (JL (x * y)) :: rest))) : W p l e R s m args below meth c H locs cells slots Q (F0 m pc ls (.long (JL y) :: .long (JL x) :: rest)) := lv_lmul hx hb hdg (by rw [JL_mul]; exact k)
theorem j_ldiv (hx : p.tables.exec = Jvm.exec) (hb : c.code = cc) {x y : Int} (h1 : 0 ≤ x) (h2 : x < 9223372036854775808) (h3 : 0 < y) (h4 : y < 9223372036854775808) (hdg : decode cc pc = .ok (.ldiv, 1)) (k : W p l e R s m args below meth c H locs cells slots Q (F0 m (pc + 1) ls (.long (JL (x / y)) :: rest))) : W p l e R s m args below meth c H locs cells slots Q (F0 m pc ls (.long (JL y) :: .long (JL x) :: rest)) :=
  lv_ldiv hx hb hdg (fun q => by rw [show (0 : Int64) = JL 0 from rfl, JL_eq (by omega) h4 (by omega) (by omega)] at q; omega) (by rw [JL_divN h1 h2 h3 h4]; exact k)
theorem j_lconst (hx : p.tables.exec = Jvm.exec) (hb : c.code = cc) {n : Fin 2} {z : Int} (hdg : decode cc pc = .ok (.lconst n, 1)) (hv : Int64.ofNat (n : Nat) = JL z) (k : W p l e R s m args below meth c H locs cells slots Q (F0 m (pc + 1) ls (.long (JL z) :: rest))) : W p l e R s m args below meth c H locs cells slots Q (F0 m pc ls rest) := lv_lconst hx hb hdg hv k
theorem j_ldc (hx : p.tables.exec = Jvm.exec) (hb : c.code = cc) {own : String} {index : Nat} {v : Int32} {z : Int} (hown : s.vm.findClass own = some m.cls) (hc : (Jvm.Cond.constant own index v).before args s = true) (hz : v = J z) (hdg : decode cc pc = .ok (.ldc index, 2)) (k : W p l e R s m args below meth c H locs cells slots Q (F0 m (pc + 2) ls (.int (J z) :: rest))) : W p l e R s m args below meth c H locs cells slots Q (F0 m pc ls rest) := lv_ldc hx hb hown hc hdg (by rw [hz]; exact k)
theorem j_ldc2 (hx : p.tables.exec = Jvm.exec) (hb : c.code = cc) {own : String} {index : Nat} {v : Int64} {z : Int} (hown : s.vm.findClass own = some m.cls) (hc : (Jvm.Cond.constantLong own index v).before args s = true) (hz : v = JL z) (hdg : decode cc pc = .ok (.ldc2_w index, 3)) (k : W p l e R s m args below meth c H locs cells slots Q (F0 m (pc + 3) ls (.long (JL z) :: rest))) : W p l e R s m args below meth c H locs cells slots Q (F0 m pc ls rest) := lv_ldc2 hx hb hown hc hdg (by rw [hz]; exact k)
theorem j_lcmp (hx : p.tables.exec = Jvm.exec) (hb : c.code = cc) {x y : Int} (h1 : -9223372036854775808 ≤ x) (h2 : x < 9223372036854775808) (h3 : -9223372036854775808 ≤ y) (h4 : y < 9223372036854775808) (hdg : decode cc pc = .ok (.lcmp, 1)) (k : W p l e R s m args below meth c H locs cells slots Q (F0 m (pc + 1) ls (.int (J (cmp3 x y)) :: rest))) : W p l e R s m args below meth c H locs cells slots Q (F0 m pc ls (.long (JL y) :: .long (JL x) :: rest)) := W.lcmp hx hb hdg (by rw [J_cmp h1 h2 h3 h4]; exact k)
/-- a value told otherwise -/
theorem j_re {x y : Int} (h : x = y) (k : W p l e R s m args below meth c H locs cells slots Q (F0 m pc ls (.int (J y) :: rest))) : W p l e R s m args below meth c H locs cells slots Q (F0 m pc ls (.int (J x) :: rest)) := by rw [h]; exact k
theorem j_reL {x y : Int} (h : x = y) (k : W p l e R s m args below meth c H locs cells slots Q (F0 m pc ls (.long (JL y) :: rest))) : W p l e R s m args below meth c H locs cells slots Q (F0 m pc ls (.long (JL x) :: rest)) := by rw [h]; exact k
theorem j_qs {o : Option Nat} {b : Nat} (h : o = some b) (k : W p l e R s m args below meth c H locs cells slots Q (F0 m pc ls (.ref b :: rest))) : W p l e R s m args below meth c H locs cells slots Q (F0 m pc ls (va_rf o :: rest)) := by rw [h]; exact k
theorem j_qn {o : Option Nat} (h : o = none) (k : W p l e R s m args below meth c H locs cells slots Q (F0 m pc ls (.null :: rest))) : W p l e R s m args below meth c H locs cells slots Q (F0 m pc ls (va_rf o :: rest)) := by rw [h]; exact k
/-! compares -/
theorem j_ceq (hx : p.tables.exec = Jvm.exec) (hb : c.code = cc) {x y : Int} {off : Int} {tgt : Nat} (h1 : -2147483648 ≤ x) (h2 : x < 2147483648) (h3 : -2147483648 ≤ y) (h4 : y < 2147483648) (hdg : decode cc pc = .ok (.if_icmp .eq off, 3)) (ht : (pc : Int) + off = (tgt : Int)) (kt : x = y → W p l e R s m args below meth c H locs cells slots Q (F0 m tgt ls rest)) (kf : x ≠ y → W p l e R s m args below meth c H locs cells slots Q (F0 m (pc + 3) ls rest)) : W p l e R s m args below meth c H locs cells slots Q (F0 m pc ls (.int (J y) :: .int (J x) :: rest)) := lv_icmp_eq hx hb hdg ht (fun q => kt ((J_eq h1 h2 h3 h4).mp q)) (fun q => kf (fun z => q ((J_eq h1 h2 h3 h4).mpr z)))
theorem j_cne (hx : p.tables.exec = Jvm.exec) (hb : c.code = cc) {x y : Int} {off : Int} {tgt : Nat} (h1 : -2147483648 ≤ x) (h2 : x < 2147483648) (h3 : -2147483648 ≤ y) (h4 : y < 2147483648) (hdg : decode cc pc = .ok (.if_icmp .ne off, 3)) (ht : (pc : Int) + off = (tgt : Int)) (kt : x ≠ y → W p l e R s m args below meth c H locs cells slots Q (F0 m tgt ls rest)) (kf : x = y → W p l e R s m args below meth c H locs cells slots Q (F0 m (pc + 3) ls rest)) : W p l e R s m args below meth c H locs cells slots Q (F0 m pc ls (.int (J y) :: .int (J x) :: rest)) := lv_icmp_ne hx hb hdg ht (fun q => kt (fun z => q ((J_eq h1 h2 h3 h4).mpr z))) (fun q => kf ((J_eq h1 h2 h3 h4).mp q))
theorem j_clt (hx : p.tables.exec = Jvm.exec) (hb : c.code = cc) {x y : Int} {off : Int} {tgt : Nat} (h1 : -2147483648 ≤ x) (h2 : x < 2147483648) (h3 : -2147483648 ≤ y) (h4 : y < 2147483648) (hdg : decode cc pc = .ok (.if_icmp .lt off, 3)) (ht : (pc : Int) + off = (tgt : Int)) (kt : x < y → W p l e R s m args below meth c H locs cells slots Q (F0 m tgt ls rest)) (kf : y ≤ x → W p l e R s m args below meth c H locs cells slots Q (F0 m (pc + 3) ls rest)) : W p l e R s m args below meth c H locs cells slots Q (F0 m pc ls (.int (J y) :: .int (J x) :: rest)) := lv_icmp_lt hx hb hdg ht (fun q => kt ((J_lt h1 h2 h3 h4).mp q)) (fun q => kf (Int.not_lt.mp fun z => q ((J_lt h1 h2 h3 h4).mpr z)))
theorem j_cge (hx : p.tables.exec = Jvm.exec) (hb : c.code = cc) {x y : Int} {off : Int} {tgt : Nat} (h1 : -2147483648 ≤ x) (h2 : x < 2147483648) (h3 : -2147483648 ≤ y) (h4 : y < 2147483648) (hdg : decode cc pc = .ok (.if_icmp .ge off, 3)) (ht : (pc : Int) + off = (tgt : Int)) (kt : y ≤ x → W p l e R s m args below meth c H locs cells slots Q (F0 m tgt ls rest)) (kf : x < y → W p l e R s m args below meth c H locs cells slots Q (F0 m (pc + 3) ls rest)) : W p l e R s m args below meth c H locs cells slots Q (F0 m pc ls (.int (J y) :: .int (J x) :: rest)) := lv_icmp_ge hx hb hdg ht (fun q => kt ((J_le h3 h4 h1 h2).mp q)) (fun q => kf (Int.not_le.mp fun z => q ((J_le h3 h4 h1 h2).mpr z)))
theorem j_cgt (hx : p.tables.exec = Jvm.exec) (hb : c.code = cc) {x y : Int} {off : Int} {tgt : Nat} (h1 : -2147483648 ≤ x) (h2 : x < 2147483648) (h3 : -2147483648 ≤ y) (h4 : y < 2147483648) (hdg : decode cc pc = .ok (.if_icmp .gt off, 3)) (ht : (pc : Int) + off = (tgt : Int)) (kt : y < x → W p l e R s m args below meth c H locs cells slots Q (F0 m tgt ls rest)) (kf : x ≤ y → W p l e R s m args below meth c H locs cells slots Q (F0 m (pc + 3) ls rest)) : W p l e R s m args below meth c H locs cells slots Q (F0 m pc ls (.int (J y) :: .int (J x) :: rest)) := lv_icmp_gt hx hb hdg ht (fun q => kt ((J_lt h3 h4 h1 h2).mp q)) (fun q => kf (Int.not_lt.mp fun z => q ((J_lt h3 h4 h1 h2).mpr z)))
theorem j_cle (hx : p.tables.exec = Jvm.exec) (hb : c.code = cc) {x y : Int} {off : Int} {tgt : Nat} (h1 : -2147483648 ≤ x) (h2 : x < 2147483648) (h3 : -2147483648 ≤ y) (h4 : y < 2147483648) (hdg : decode cc pc = .ok (.if_icmp .le off, 3)) (ht : (pc : Int) + off = (tgt : Int)) (kt : x ≤ y → W p l e R s m args below meth c H locs cells slots Q (F0 m tgt ls rest)) (kf : y < x → W p l e R s m args below meth c H locs cells slots Q (F0 m (pc + 3) ls rest)) : W p l e R s m args below meth c H locs cells slots Q (F0 m pc ls (.int (J y) :: .int (J x) :: rest)) := lv_icmp_le hx hb hdg ht (fun q => kt ((J_le h1 h2 h3 h4).mp q)) (fun q => kf (Int.not_le.mp fun z => q ((J_le h1 h2 h3 h4).mpr z)))
theorem j_eq0 (hx : p.tables.exec = Jvm.exec) (hb : c.code = cc) {x : Int} {off : Int} {tgt : Nat} (h1 : -2147483648 ≤ x) (h2 : x < 2147483648) (hdg : decode cc pc = .ok (.ifCond .eq off, 3)) (ht : (pc : Int) + off = (tgt : Int)) (kt : x = 0 → W p l e R s m args below meth c H locs cells slots Q (F0 m tgt ls rest)) (kf : x ≠ 0 → W p l e R s m args below meth c H locs cells slots Q (F0 m (pc + 3) ls rest)) : W p l e R s m args below meth c H locs cells slots Q (F0 m pc ls (.int (J x) :: rest)) := lv_if_eq hx hb hdg ht (fun q => kt ((J_eq h1 h2 (by omega) (by omega)).mp q)) (fun q => kf (fun z => q ((J_eq h1 h2 (by omega) (by omega)).mpr z)))
theorem j_ne0 (hx : p.tables.exec = Jvm.exec) (hb : c.code = cc) {x : Int} {off : Int} {tgt : Nat} (h1 : -2147483648 ≤ x) (h2 : x < 2147483648) (hdg : decode cc pc = .ok (.ifCond .ne off, 3)) (ht : (pc : Int) + off = (tgt : Int)) (kt : x ≠ 0 → W p l e R s m args below meth c H locs cells slots Q (F0 m tgt ls rest)) (kf : x = 0 → W p l e R s m args below meth c H locs cells slots Q (F0 m (pc + 3) ls rest)) : W p l e R s m args below meth c H locs cells slots Q (F0 m pc ls (.int (J x) :: rest)) := lv_if_ne hx hb hdg ht (fun q => kt (fun z => q ((J_eq h1 h2 (by omega) (by omega)).mpr z))) (fun q => kf ((J_eq h1 h2 (by omega) (by omega)).mp q))
theorem j_lt0 (hx : p.tables.exec = Jvm.exec) (hb : c.code = cc) {x : Int} {off : Int} {tgt : Nat} (h1 : -2147483648 ≤ x) (h2 : x < 2147483648) (hdg : decode cc pc = .ok (.ifCond .lt off, 3)) (ht : (pc : Int) + off = (tgt : Int)) (kt : x < 0 → W p l e R s m args below meth c H locs cells slots Q (F0 m tgt ls rest)) (kf : 0 ≤ x → W p l e R s m args below meth c H locs cells slots Q (F0 m (pc + 3) ls rest)) : W p l e R s m args below meth c H locs cells slots Q (F0 m pc ls (.int (J x) :: rest)) := lv_if_lt hx hb hdg ht (fun q => kt ((J_lt h1 h2 (by omega) (by omega)).mp q)) (fun q => kf (Int.not_lt.mp fun z => q ((J_lt h1 h2 (by omega) (by omega)).mpr z)))
theorem j_ge0 (hx : p.tables.exec = Jvm.exec) (hb : c.code = cc) {x : Int} {off : Int} {tgt : Nat} (h1 : -2147483648 ≤ x) (h2 : x < 2147483648) (hdg : decode cc pc = .ok (.ifCond .ge off, 3)) (ht : (pc : Int) + off = (tgt : Int)) (kt : 0 ≤ x → W p l e R s m args below meth c H locs cells slots Q (F0 m tgt ls rest)) (kf : x < 0 → W p l e R s m args below meth c H locs cells slots Q (F0 m (pc + 3) ls rest)) : W p l e R s m args below meth c H locs cells slots Q (F0 m pc ls (.int (J x) :: rest)) := lv_if_ge hx hb hdg ht (fun q => kt ((J_le (by omega) (by omega) h1 h2).mp q)) (fun q => kf (Int.not_le.mp fun z => q ((J_le (by omega) (by omega) h1 h2).mpr z)))
theorem j_gt0 (hx : p.tables.exec = Jvm.exec) (hb : c.code = cc) {x : Int} {off : Int} {tgt : Nat} (h1 : -2147483648 ≤ x) (h2 : x < 2147483648) (hdg : decode cc pc = .ok (.ifCond .gt off, 3)) (ht : (pc : Int) + off = (tgt : Int)) (kt : 0 < x → W p l e R s m args below meth c H locs cells slots Q (F0 m tgt ls rest)) (kf : x ≤ 0 → W p l e R s m args below meth c H locs cells slots Q (F0 m (pc + 3) ls rest)) : W p l e R s m args below meth c H locs cells slots Q (F0 m pc ls (.int (J x) :: rest)) := lv_if_gt hx hb hdg ht (fun q => kt ((J_lt (by omega) (by omega) h1 h2).mp q)) (fun q => kf (Int.not_lt.mp fun z => q ((J_lt (by omega) (by omega) h1 h2).mpr z)))
theorem j_le0 (hx : p.tables.exec = Jvm.exec) (hb : c.code = cc) {x : Int} {off : Int} {tgt : Nat} (h1 : -2147483648 ≤ x) (h2 : x < 2147483648) (hdg : decode cc pc = .ok (.ifCond .le off, 3)) (ht : (pc : Int) + off = (tgt : Int)) (kt : x ≤ 0 → W p l e R s m args below meth c H locs cells slots Q (F0 m tgt ls rest)) (kf : 0 < x → W p l e R s m args below meth c H locs cells slots Q (F0 m (pc + 3) ls rest)) : W p l e R s m args below meth c H locs cells slots Q (F0 m pc ls (.int (J x) :: rest)) := lv_if_le hx hb hdg ht (fun q => kt ((J_le h1 h2 (by omega) (by omega)).mp q)) (fun q => kf (Int.not_le.mp fun z => q ((J_le h1 h2 (by omega) (by omega)).mpr z)))
theorem j_eqP (hx : p.tables.exec = Jvm.exec) (hb : c.code = cc) {d : Prop} {inst : Decidable d} {off : Int} {tgt : Nat} (hdg : decode cc pc = .ok (.ifCond .eq off, 3)) (ht : (pc : Int) + off = (tgt : Int)) (kt : ¬ d → W p l e R s m args below meth c H locs cells slots Q (F0 m tgt ls rest)) (kf : d → W p l e R s m args below meth c H locs cells slots Q (F0 m (pc + 3) ls rest)) : W p l e R s m args below meth c H locs cells slots Q (F0 m pc ls (.int (J (@pI d inst)) :: rest)) :=
  j_eq0 hx hb (by have := @pI_rng d inst; omega) (by have := @pI_rng d inst; omega) hdg ht (fun q => kt (fun z => by rw [@pI_t d inst z] at q; omega)) (fun q => kf (Classical.byContradiction fun z => q (@pI_f d inst z)))
theorem j_neP (hx : p.tables.exec = Jvm.exec) (hb : c.code = cc) {d : Prop} {inst : Decidable d} {off : Int} {tgt : Nat} (hdg : decode cc pc = .ok (.ifCond .ne off, 3)) (ht : (pc : Int) + off = (tgt : Int)) (kt : d → W p l e R s m args below meth c H locs cells slots Q (F0 m tgt ls rest)) (kf : ¬ d → W p l e R s m args below meth c H locs cells slots Q (F0 m (pc + 3) ls rest)) : W p l e R s m args below meth c H locs cells slots Q (F0 m pc ls (.int (J (@pI d inst)) :: rest)) :=
  j_ne0 hx hb (by have := @pI_rng d inst; omega) (by have := @pI_rng d inst; omega) hdg ht (fun q => kt (Classical.byContradiction fun z => q (@pI_f d inst z))) (fun q => kf (fun z => by rw [@pI_t d inst z] at q; omega))
theorem j_tabIn (hx : p.tables.exec = Jvm.exec) (hb : c.code = cc) {dflt lo hi : Int} {offs : Array Int} {len : Nat} {z : Int} {off : Int} {tgt : Nat} (k0 : Int) (hz : z = k0) (h1 : -2147483648 ≤ k0) (h2 : k0 < 2147483648) (hdg : decode cc pc = .ok (.tableswitch dflt lo hi offs, len)) (hlo : lo ≤ k0) (hhi : k0 ≤ hi) (ho : offs[(k0 - lo).toNat]? = some off) (ht : (pc : Int) + off = (tgt : Int)) (k : W p l e R s m args below meth c H locs cells slots Q (F0 m tgt ls rest)) : W p l e R s m args below meth c H locs cells slots Q (F0 m pc ls (.int (J z) :: rest)) := by
  subst hz
  have q := J_toInt h1 h2
  exact lv_tableIn hx hb hdg (by rw [q]; omega) (by rw [q]; omega) (by rw [q]; exact ho) ht k
theorem j_tabOut (hx : p.tables.exec = Jvm.exec) (hb : c.code = cc) {dflt lo hi : Int} {offs : Array Int} {len : Nat} {z : Int} {tgt : Nat} (h1 : -2147483648 ≤ z) (h2 : z < 2147483648) (hdg : decode cc pc = .ok (.tableswitch dflt lo hi offs, len)) (h : z < lo ∨ hi < z) (ht : (pc : Int) + dflt = (tgt : Int)) (k : W p l e R s m args below meth c H locs cells slots Q (F0 m tgt ls rest)) : W p l e R s m args below meth c H locs cells slots Q (F0 m pc ls (.int (J z) :: rest)) :=
  lv_tableOut hx hb hdg (by rw [J_toInt h1 h2]; exact h) ht k
/-! fields -/
theorem j_get (hx : p.tables.exec = Jvm.exec) (hb : c.code = cc) {own ref C : String} {T : u_T} {N ci index : Nat} {Ts : List Cond} (hts : ∀ w ∈ Ts, w.before args s = true) (hin : ∀ w ∈ u_ws C T N, w ∈ Ts) (hown : s.vm.findClass own = some m.cls) (hK : KK G s) {fs : List Value} (he : At G H a (eO ci fs)) (hc : vwCl[ci]? = some (C, T, N)) (k : Nat) (hk : k < N) (hlink : (Cond.fieldLink own index ref (T k).2.1 (T k).2.2.1).before args s = true) (hsame : ∀ x, s.fieldFound? (T k).1 (T k).2.1 (T k).2.2.1 = some x → s.fieldFound? ref (T k).2.1 (T k).2.2.1 = some x) {v : Value} (hv : fs[k]? = some v) (hdg : decode cc pc = .ok (.getfield index, 3))
    (kk : W p l e R s m args below meth c H locs cells slots Q (F0 m (pc + 3) ls (v :: rest))) : W p l e R s m args below meth c H locs cells slots Q (F0 m pc ls (.ref a :: rest)) := va_get hx hb hts hin hown hK.1 he.P 0 rfl hc k hk hlink hsame hv hdg kk
theorem j_getN (hx : p.tables.exec = Jvm.exec) (hb : c.code = cc) {own ref C host : String} {T : u_T} {N ci index : Nat} {Ts : List Cond} (hts : ∀ w ∈ Ts, w.before args s = true) (hin : ∀ w ∈ u_ws C T N, w ∈ Ts) (hown : s.vm.findClass own = some m.cls) (hK : KK G s) {fs : List Value} (he : At G H a (eO ci fs)) (hc : vwCl[ci]? = some (C, T, N)) (k : Nat) (hk : k < N) (hlink : va_Nw (.fieldLinkNest own index ref (T k).2.1 (T k).2.2.1 host) s) (hsame : ∀ x, s.fieldFound? (T k).1 (T k).2.1 (T k).2.2.1 = some x → s.fieldFound? ref (T k).2.1 (T k).2.2.1 = some x) {v : Value} (hv : fs[k]? = some v) (hdg : decode cc pc = .ok (.getfield index, 3))
    (kk : W p l e R s m args below meth c H locs cells slots Q (F0 m (pc + 3) ls (v :: rest))) : W p l e R s m args below meth c H locs cells slots Q (F0 m pc ls (.ref a :: rest)) := va_getN hx hb hts hin hown hK.1 he.P 0 rfl hc k hk (va_Nw.use rfl hlink) hsame hv hdg kk
theorem j_put (hx : p.tables.exec = Jvm.exec) (hb : c.code = cc) {own ref C : String} {T : u_T} {N ci index : Nat} {Ts : List Cond} (hts : ∀ w ∈ Ts, w.before args s = true) (hin : ∀ w ∈ u_ws C T N, w ∈ Ts) (ty0 : Nat → FieldType) (hty : ∀ k, k < N → parseFieldDescriptor (T k).2.2.1 = some (ty0 k)) (hnm : ∀ a, a < N → ∀ b, b < N → a ≠ b → (T a).2.1 ≠ (T b).2.1) (hown : s.vm.findClass own = some m.cls) (hK : KK G s) {fs : List Value} (he : At G H a (eO ci fs)) (hc : vwCl[ci]? = some (C, T, N)) (k : Nat) (hk : k < N) (hlink : (Cond.fieldLink own index ref (T k).2.1 (T k).2.2.1).before args s = true) (hsame : ∀ x, s.fieldFound? (T k).1 (T k).2.1 (T k).2.2.1 = some x → s.fieldFound? ref (T k).2.1 (T k).2.2.1 = some x) (hfin : (T k).2.2.2 = false) {ty : FieldType} {v : Value} (hd : parseFieldDescriptor (T k).2.2.1 = some ty) (hn : narrow ty v = v) (hfit : fits ty v = true) (hl : k < fs.length) (hL : ∀ q ∈ locs, A q.base) (hA : A a)
    (hdg : decode cc pc = .ok (.putfield index, 3)) (kk : ∀ (H1 : Heap) (locs1 : List Loc), At G H1 a (eO ci (fs.set k v)) → Hx H H1 a → (∀ q ∈ locs1, A q.base) → W p l e R s m args below meth c H1 locs1 cells slots Q (F0 m (pc + 3) ls rest)) : W p l e R s m args below meth c H locs cells slots Q (F0 m pc ls (v :: .ref a :: rest)) := by
  have hap := va_apart (own := own) hts hin ty0 hty hnm hK.1 hc
  obtain ⟨r, h1, cell, q1, q2, q3, q4⟩ := (show va_at G.1 vwCl (a, .inr (ci, fs)) H from he)
  have hr : r = (C, T, N) := Option.some.inj (h1.symm.trans hc)
  subst hr
  obtain ⟨hS, hfc, kC, hkC, hkind⟩ := hK.1.1 ci _ hc
  obtain ⟨cf, kf, fi, f, hi, hsl⟩ := hS k hk
  have hlay := hts _ (hin _ (u_in_lay hk))
  unfold u_lay at hlay
  rw [if_neg (by rw [hfin]; decide)] at hlay
  have hst := (u_facts hfc hkC (u_lays hts hin hk) hi).1
  have h6 := u_store hfc hkC hkind hlay hi hd hn hfit
  refine W.putK hx hb (f := f) ⟨hown, hlink, ⟨_, _, _, hsame _ hi⟩, hst⟩ (by rw [q2]; exact h6) q1 q3 (by rw [hsl]; exact k2_hasslot (q4 k hk)) rfl rfl hdg fun H' e1 e2 e3 => ?_
  rw [hsl] at e1 ⊢
  refine kk H' _ ⟨_, hc, t_OB.to (V := updV (vp_V fs) k v) ⟨_, e1, q2, q3, t_set q4 hap hk v⟩ (fun j _ => vp_updV_set hl v j)⟩ ⟨e2, e3⟩ (fun q hq => ?_)
  rcases List.mem_append.mp hq with h | h
  · exact hL q h
  · rw [List.mem_singleton.mp h]; exact hA
theorem j_putF (hx : p.tables.exec = Jvm.exec) (hb : c.code = cc) {own ref C : String} {T : u_T} {N ci index : Nat} {Ts : List Cond} (hts : ∀ w ∈ Ts, w.before args s = true) (hin : ∀ w ∈ u_ws C T N, w ∈ Ts) (ty0 : Nat → FieldType) (hty : ∀ k, k < N → parseFieldDescriptor (T k).2.2.1 = some (ty0 k)) (hnm : ∀ a, a < N → ∀ b, b < N → a ≠ b → (T a).2.1 ≠ (T b).2.1) (hown : s.vm.findClass own = some m.cls) (hK : KK G s) {fs : List Value} (he : At G H a (eO ci fs)) (hc : vwCl[ci]? = some (C, T, N)) (k : Nat) (hk : k < N) (hlink : (Cond.fieldLink own index ref (T k).2.1 (T k).2.2.1).before args s = true) (hsame : ∀ x, s.fieldFound? (T k).1 (T k).2.1 (T k).2.2.1 = some x → s.fieldFound? ref (T k).2.1 (T k).2.2.1 = some x) (hfin : (T k).2.2.2 = true) (hin2 : meth.name = "<init>") (hdecl : (T k).1 = own) {ty : FieldType} {v : Value} (hd : parseFieldDescriptor (T k).2.2.1 = some ty) (hn : narrow ty v = v) (hfit : fits ty v = true) (hl : k < fs.length) (hL : ∀ q ∈ locs, A q.base) (hA : A a)
    (hdg : decode cc pc = .ok (.putfield index, 3)) (kk : ∀ (H1 : Heap) (locs1 : List Loc), At G H1 a (eO ci (fs.set k v)) → Hx H H1 a → (∀ q ∈ locs1, A q.base) → W p l e R s m args below meth c H1 locs1 cells slots Q (F0 m (pc + 3) ls rest)) : W p l e R s m args below meth c H locs cells slots Q (F0 m pc ls (v :: .ref a :: rest)) := by
  have hap := va_apart (own := own) hts hin ty0 hty hnm hK.1 hc
  obtain ⟨r, h1, cell, q1, q2, q3, q4⟩ := (show va_at G.1 vwCl (a, .inr (ci, fs)) H from he)
  have hr : r = (C, T, N) := Option.some.inj (h1.symm.trans hc)
  subst hr
  obtain ⟨hS, hfc, kC, hkC, hkind⟩ := hK.1.1 ci _ hc
  obtain ⟨cf, kf, fi, f, hi, hsl⟩ := hS k hk
  have hlay := hts _ (hin _ (u_in_lay hk))
  unfold u_lay at hlay
  rw [if_pos hfin] at hlay
  have hst := (u_facts hfc hkC (u_lays hts hin hk) hi).1
  have hcf : m.cls = cf := by
    obtain ⟨_, _, c', _, _, _, -, -, hf', -, -, -, hown2, -⟩ := Cond.laysFinal_spec hlay
    have e1 : c' = cf := by have := hi.symm.trans hf'; simp at this; exact this.1.symm
    rw [hdecl] at hown2
    rw [← e1]; exact Option.some.inj (hown.symm.trans hown2)
  have h6 := u_fits hfc hkC hkind (Or.inr hlay) hi hd hn hfit
  refine W.putFinK hx hb hown hlink (hsame _ hi) hst hcf hin2 (by rw [q2]; exact h6) q1 q3 (by rw [hsl]; exact k2_hasslot (q4 k hk)) rfl rfl hdg fun H' e1 e2 e3 => ?_
  rw [hsl] at e1 ⊢
  refine kk H' _ ⟨_, hc, t_OB.to (V := updV (vp_V fs) k v) ⟨_, e1, q2, q3, t_set q4 hap hk v⟩ (fun j _ => vp_updV_set hl v j)⟩ ⟨e2, e3⟩ (fun q hq => ?_)
  rcases List.mem_append.mp hq with h | h
  · exact hL q h
  · rw [List.mem_singleton.mp h]; exact hA
/-! arrays -/
theorem j_iald (hx : p.tables.exec = Jvm.exec) (hb : c.code = cc) (hK : KK G s) {n : Nat} {f : Int → Int} (he : At G H a (eI G n f)) {z : Int} (h0 : 0 ≤ z) (h1 : z < (n : Int)) (hn : n < 2147483648) (hdg : decode cc pc = .ok (.iaload, 1)) (kk : W p l e R s m args below meth c H locs cells slots Q (F0 m (pc + 1) ls (.int (J (f z)) :: rest))) : W p l e R s m args below meth c H locs cells slots Q (F0 m pc ls (.int (J z) :: .ref a :: rest)) := by
  exact va_iald (f := fun j : Nat => J (f (j : Int))) hx hb hK.1 he.P 0 0 rfl rfl (J_in h0 h1 hn) hdg (by rw [J_clamp h0 (by omega)]; exact kk)
theorem j_zald (hx : p.tables.exec = Jvm.exec) (hb : c.code = cc) (hK : KK G s) {n : Nat} {f : Int → Int} (he : At G H a (eZ G n f)) {z : Int} (h0 : 0 ≤ z) (h1 : z < (n : Int)) (hn : n < 2147483648) (hdg : decode cc pc = .ok (.baload, 1)) (kk : W p l e R s m args below meth c H locs cells slots Q (F0 m (pc + 1) ls (.int (J (f z)) :: rest))) : W p l e R s m args below meth c H locs cells slots Q (F0 m pc ls (.int (J z) :: .ref a :: rest)) := by
  exact va_zald (f := fun j : Nat => J (f (j : Int))) hx hb hK.1 he.P 0 2 rfl rfl (J_in h0 h1 hn) hdg (by rw [J_clamp h0 (by omega)]; exact kk)
theorem j_lald (hx : p.tables.exec = Jvm.exec) (hb : c.code = cc) (hK : KK G s) {n : Nat} {f : Int → Int} (he : At G H a (eL G n f)) {z : Int} (h0 : 0 ≤ z) (h1 : z < (n : Int)) (hn : n < 2147483648) (hdg : decode cc pc = .ok (.laload, 1)) (kk : W p l e R s m args below meth c H locs cells slots Q (F0 m (pc + 1) ls (.long (JL (f z)) :: rest))) : W p l e R s m args below meth c H locs cells slots Q (F0 m pc ls (.int (J z) :: .ref a :: rest)) := by
  exact va_lald (f := fun j : Nat => JL (f (j : Int))) hx hb hK.1 he.P 0 1 rfl rfl (J_in h0 h1 hn) hdg (by rw [J_clamp h0 (by omega)]; exact kk)
theorem j_aald (hx : p.tables.exec = Jvm.exec) (hb : c.code = cc) (hK : KK G s) {k n : Nat} {C : String} {f : Int → Option Nat} (he : At G H a (eQ G k n f)) (ht : (tysG G.2)[k]? = some (G.2 k, .object C)) {z : Int} (h0 : 0 ≤ z) (h1 : z < (n : Int)) (hn : n < 2147483648) (hdg : decode cc pc = .ok (.aaload, 1)) (kk : W p l e R s m args below meth c H locs cells slots Q (F0 m (pc + 1) ls (va_rf (f z) :: rest))) : W p l e R s m args below meth c H locs cells slots Q (F0 m pc ls (.int (J z) :: .ref a :: rest)) := by
  exact va_aldq (f := fun j : Nat => f (j : Int)) hx hb hK.1 he.P 0 k rfl ht (J_in h0 h1 hn) hdg (by rw [J_clamp h0 (by omega)]; exact kk)
theorem j_alI (hx : p.tables.exec = Jvm.exec) (hb : c.code = cc) (hK : KK G s) {n : Nat} {f : Int → Int} (he : At G H a (eI G n f)) (hdg : decode cc pc = .ok (.arraylength, 1)) (kk : W p l e R s m args below meth c H locs cells slots Q (F0 m (pc + 1) ls (.int (J (n : Int)) :: rest))) : W p l e R s m args below meth c H locs cells slots Q (F0 m pc ls (.ref a :: rest)) := va_alen hx hb hK.1 he.P 0 0 rfl rfl (J_nat n).symm hdg kk
theorem j_alL (hx : p.tables.exec = Jvm.exec) (hb : c.code = cc) (hK : KK G s) {n : Nat} {f : Int → Int} (he : At G H a (eL G n f)) (hdg : decode cc pc = .ok (.arraylength, 1)) (kk : W p l e R s m args below meth c H locs cells slots Q (F0 m (pc + 1) ls (.int (J (n : Int)) :: rest))) : W p l e R s m args below meth c H locs cells slots Q (F0 m pc ls (.ref a :: rest)) := va_alen hx hb hK.1 he.P 0 1 rfl rfl (J_nat n).symm hdg kk
theorem j_alQ (hx : p.tables.exec = Jvm.exec) (hb : c.code = cc) (hK : KK G s) {k n : Nat} {C : String} {f : Int → Option Nat} (he : At G H a (eQ G k n f)) (ht : (tysG G.2)[k]? = some (G.2 k, .object C)) (hdg : decode cc pc = .ok (.arraylength, 1)) (kk : W p l e R s m args below meth c H locs cells slots Q (F0 m (pc + 1) ls (.int (J (n : Int)) :: rest))) : W p l e R s m args below meth c H locs cells slots Q (F0 m pc ls (.ref a :: rest)) := va_alen hx hb hK.1 he.P 0 k rfl ht (J_nat n).symm hdg kk
theorem up_eq {α β : Type} (g : α → β) (f : Int → α) {z : Int} (h0 : 0 ≤ z) (x : α) (k : Nat) (hk : (k : Int) = z) : (fun j : Nat => if j = k then g x else g (f (j : Int))) = fun j : Nat => g (uf f z x (j : Int)) := by
  funext j
  by_cases h : j = k
  · subst h; simp [uf, hk]
  · have : (j : Int) ≠ z := by omega
    simp [uf, h, this]
theorem j_iast (hx : p.tables.exec = Jvm.exec) (hb : c.code = cc) (hK : KK G s) {n : Nat} {f : Int → Int} (he : At G H a (eI G n f)) {z x : Int} (h0 : 0 ≤ z) (h1 : z < (n : Int)) (hn : n < 2147483648) (hL : ∀ q ∈ locs, A q.base) (hA : A a) (hdg : decode cc pc = .ok (.iastore, 1)) (kk : ∀ (H1 : Heap) (locs1 : List Loc), At G H1 a (eI G n (uf f z x)) → Hx H H1 a → (∀ q ∈ locs1, A q.base) → W p l e R s m args below meth c H1 locs1 cells slots Q (F0 m (pc + 1) ls rest)) : W p l e R s m args below meth c H locs cells slots Q (F0 m pc ls (.int (J x) :: .int (J z) :: .ref a :: rest)) := by
  have hin := J_in h0 h1 hn
  refine W.iast hx hb he ((hK.1.2 0 _ rfl).1 n (fun j => .int (J (f j)))) (fun q => by cases q) (by show ¬ (J z < 0 ∨ (arrV _ _ _).slots.size ≤ _); rw [arrV_size]; exact hin) rfl rfl hdg fun H1 e z1 oq => ?_
  refine kk H1 _ ?_ ⟨z1, oq⟩ (fun q hq => ?_)
  · show H1[a]? = some (vp_cell _ _)
    rw [e, vp_cell_i, vp_cell_i, arrV_store]
    exact congrArg (fun g => some (arrV (G.2 0) n g)) (up_eq (fun y => Value.int (J y)) f h0 x _ (J_clamp h0 (by omega)))
  · rcases List.mem_append.mp hq with h | h
    · exact hL q h
    · rw [List.mem_singleton.mp h]; exact hA
theorem j_last (hx : p.tables.exec = Jvm.exec) (hb : c.code = cc) (hK : KK G s) {n : Nat} {f : Int → Int} (he : At G H a (eL G n f)) {z x : Int} (h0 : 0 ≤ z) (h1 : z < (n : Int)) (hn : n < 2147483648) (hL : ∀ q ∈ locs, A q.base) (hA : A a) (hdg : decode cc pc = .ok (.lastore, 1)) (kk : ∀ (H1 : Heap) (locs1 : List Loc), At G H1 a (eL G n (uf f z x)) → Hx H H1 a → (∀ q ∈ locs1, A q.base) → W p l e R s m args below meth c H1 locs1 cells slots Q (F0 m (pc + 1) ls rest)) : W p l e R s m args below meth c H locs cells slots Q (F0 m pc ls (.long (JL x) :: .int (J z) :: .ref a :: rest)) := by
  have hin := J_in h0 h1 hn
  refine W.last hx hb he ((hK.1.2 1 _ rfl).1 n (fun j => .long (JL (f j)))) (fun q => by cases q) (by show ¬ (J z < 0 ∨ (arrV _ _ _).slots.size ≤ _); rw [arrV_size]; exact hin) rfl rfl hdg fun H1 e z1 oq => ?_
  refine kk H1 _ ?_ ⟨z1, oq⟩ (fun q hq => ?_)
  · show H1[a]? = some (vp_cell _ _)
    rw [e, vp_cell_l, vp_cell_l, arrV_store]
    exact congrArg (fun g => some (arrV (G.2 1) n g)) (up_eq (fun y => Value.long (JL y)) f h0 x _ (J_clamp h0 (by omega)))
  · rcases List.mem_append.mp hq with h | h
    · exact hL q h
    · rw [List.mem_singleton.mp h]; exact hA
theorem j_zast (hx : p.tables.exec = Jvm.exec) (hb : c.code = cc) (hK : KK G s) {n : Nat} {f : Int → Int} (he : At G H a (eZ G n f)) {z x : Int} (h0 : 0 ≤ z) (h1 : z < (n : Int)) (hn : n < 2147483648) (hx1 : narrow .boolean (.int (J x)) = .int (J x)) (hL : ∀ q ∈ locs, A q.base) (hA : A a) (hdg : decode cc pc = .ok (.bastore, 1)) (kk : ∀ (H1 : Heap) (locs1 : List Loc), At G H1 a (eZ G n (uf f z x)) → Hx H H1 a → (∀ q ∈ locs1, A q.base) → W p l e R s m args below meth c H1 locs1 cells slots Q (F0 m (pc + 1) ls rest)) : W p l e R s m args below meth c H locs cells slots Q (F0 m pc ls (.int (J x) :: .int (J z) :: .ref a :: rest)) := by
  have hin := J_in h0 h1 hn
  refine W.zast hx hb he ((hK.1.2 2 _ rfl).1 n (fun j => .int (J (f j)))) (fun q => by cases q) (by show ¬ (J z < 0 ∨ (arrV _ _ _).slots.size ≤ _); rw [arrV_size]; exact hin) rfl rfl hdg fun H1 e z1 oq => ?_
  refine kk H1 _ ?_ ⟨z1, oq⟩ (fun q hq => ?_)
  · show H1[a]? = some (vp_cell _ _)
    rw [e, vp_cell_i, vp_cell_i, hx1, arrV_store]
    exact congrArg (fun g => some (arrV (G.2 2) n g)) (up_eq (fun y => Value.int (J y)) f h0 x _ (J_clamp h0 (by omega)))
  · rcases List.mem_append.mp hq with h | h
    · exact hL q h
    · rw [List.mem_singleton.mp h]; exact hA
theorem j_aast (hx : p.tables.exec = Jvm.exec) (hb : c.code = cc) (hK : KK G s) {k n ci v : Nat} {r : vw_C} {vs : List Value} {f : Int → Option Nat} (he : At G H a (eQ G k n f)) (ht : (tysG G.2)[k]? = some (G.2 k, .object r.1)) (hv : At G H v (eO ci vs)) (hc : vwCl[ci]? = some r) {z : Int} (h0 : 0 ≤ z) (h1 : z < (n : Int)) (hn : n < 2147483648) (hL : ∀ q ∈ locs, A q.base) (hA : A a) (hdg : decode cc pc = .ok (.aastore, 1)) (kk : ∀ (H1 : Heap) (locs1 : List Loc), At G H1 a (eQ G k n (uf f z (some v))) → Hx H H1 a → (∀ q ∈ locs1, A q.base) → W p l e R s m args below meth c H1 locs1 cells slots Q (F0 m (pc + 1) ls rest)) : W p l e R s m args below meth c H locs cells slots Q (F0 m pc ls (.ref v :: .int (J z) :: .ref a :: rest)) := by
  have hin := J_in h0 h1 hn
  have hlt : (J z).toNatClampNeg < n := Nat.not_le.mp fun q => hin (Or.inr q)
  have h00 : ¬ J z < 0 := fun q => hin (Or.inl q)
  obtain ⟨r', hr', cellV, g1, g2, g3, -⟩ := (show va_at G.1 vwCl (v, .inr (ci, vs)) H from hv)
  have hcls := (hK.1.1 ci r hc).2
  obtain ⟨kA, comp, k1, k2, k3, -⟩ := (hK.1.2 k _ ht).2
  have hcomp : comp = G.1.1 ci := Option.some.inj (k3.symm.trans hcls.1)
  subst hcomp
  obtain ⟨kC, hkC, -⟩ := hcls.2
  refine W.aast hx hb he (fun q h => by cases h) (fun h => by cases h) k1 k2 rfl hkC ⟨h00, by show _ < (arrV _ _ _).slots.size; rw [arrV_size]; exact hlt⟩ g1 (fun q h => by rw [g3] at h; cases h) (by rw [g2]; exact hkC) (by rw [g2]; exact va_assign hcls) rfl rfl hdg fun H1 e z1 oq => ?_
  refine kk H1 _ ?_ ⟨z1, oq⟩ (fun q hq => ?_)
  · show H1[a]? = some (vp_cell _ _)
    rw [e, vp_cell_q, vp_cell_q, arrV_store]
    exact congrArg (fun g => some (arrV (G.2 k) n g)) (up_eq (fun y => va_rf y) f h0 (some v) _ (J_clamp h0 (by omega)))
  · rcases List.mem_append.mp hq with h | h
    · exact hL q h
    · rw [List.mem_singleton.mp h]; exact hA
theorem j_aastN (hx : p.tables.exec = Jvm.exec) (hb : c.code = cc) (hK : KK G s) {k n : Nat} {C : String} {f : Int → Option Nat} (he : At G H a (eQ G k n f)) (ht : (tysG G.2)[k]? = some (G.2 k, .object C)) {z : Int} (h0 : 0 ≤ z) (h1 : z < (n : Int)) (hn : n < 2147483648) (hL : ∀ q ∈ locs, A q.base) (hA : A a) (hdg : decode cc pc = .ok (.aastore, 1)) (kk : ∀ (H1 : Heap) (locs1 : List Loc), At G H1 a (eQ G k n (uf f z none)) → Hx H H1 a → (∀ q ∈ locs1, A q.base) → W p l e R s m args below meth c H1 locs1 cells slots Q (F0 m (pc + 1) ls rest)) : W p l e R s m args below meth c H locs cells slots Q (F0 m pc ls (.null :: .int (J z) :: .ref a :: rest)) := by
  have hin := J_in h0 h1 hn
  refine va_WaastN (C := C) hx hb he ((hK.1.2 k _ ht).1 n (fun j => va_rf (f j))) (fun h => by cases h) (by show ¬ (J z < 0 ∨ (arrV _ _ _).slots.size ≤ _); rw [arrV_size]; exact hin) rfl rfl hdg fun H1 e z1 oq => ?_
  refine kk H1 _ ?_ ⟨z1, oq⟩ (fun q hq => ?_)
  · show H1[a]? = some (vp_cell _ _)
    rw [e, vp_cell_q, vp_cell_q, arrV_store]
    exact congrArg (fun g => some (arrV (G.2 k) n g)) (up_eq (fun y => va_rf y) f h0 none _ (J_clamp h0 (by omega)))
  · rcases List.mem_append.mp hq with h | h
    · exact hL q h
    · rw [List.mem_singleton.mp h]; exact hA
/-! new cells -/
theorem j_new (hx : p.tables.exec = Jvm.exec) (hb : c.code = cc) {own C : String} {T : u_T} {N ci index : Nat} {Ts : List Cond} (hts : ∀ w ∈ Ts, w.before args s = true) (hin : ∀ w ∈ u_ws C T N, w ∈ Ts) (ty : Nat → FieldType) (hty : ∀ k, k < N → parseFieldDescriptor (T k).2.2.1 = some (ty k)) (hown : s.vm.findClass own = some m.cls) (hcl : (Cond.classLink own index C).before args s = true) (hinst : (Cond.instantiable C N).before args s = true) (hini : (Cond.initialized C).before args s = true) (hK : KK G s) (hc : vwCl[ci]? = some (C, T, N)) {fs : List Value} (hfs : ∀ j, j < N → defaultValue (ty j) = vp_V fs j) (hcells : cells + 1 ≤ R.cells) (hslots : slots + N ≤ R.slots) (hdg : decode cc pc = .ok (.new index, 3))
    (kk : ∀ (q : Nat) (H1 : Heap), At G H1 q (eO ci fs) → Hn H H1 q → W p l e R s m args below meth c H1 locs (cells + 1) (slots + N) Q (F0 m (pc + 3) ls (.ref q :: rest))) : W p l e R s m args below meth c H locs cells slots Q (F0 m pc ls rest) := by
  have hKn := hK.1.1 ci _ hc
  refine W.newcK hx hb hown hcl hinst hini rfl hdg hcells hslots hKn.2.1 rfl fun H1 kC hkC e1 z1 o1 => ?_
  exact kk H.size H1 ⟨_, hc, (u_born ty hts hin hKn hkC e1 hty).to hfs⟩ ⟨rfl, z1, o1⟩
theorem j_newI (hx : p.tables.exec = Jvm.exec) (hb : c.code = cc) (harr : (Cond.arrayClass .int).before args s = true) (hK : KK G s) {z : Int} {n : Nat} (hz : z = (n : Int)) (hn : n * 4 ≤ 536870912) (hcells : cells + 1 ≤ R.cells) (hslots : slots + n ≤ R.slots) (hdg : decode cc pc = .ok (.newarray .int, 2))
    (kk : ∀ (q : Nat) (H1 : Heap), At G H1 q (eI G n (fun _ => 0)) → Hn H H1 q → W p l e R s m args below meth c H1 locs (cells + 1) (slots + n) Q (F0 m (pc + 2) ls (.ref q :: rest))) : W p l e R s m args below meth c H locs cells slots Q (F0 m pc ls (.int (J z) :: rest)) := by
  subst hz
  have h2 : n < 2 ^ 31 := by omega
  rw [J_nat]
  refine va_newaK (atype := .int) hx hb harr rfl hdg rfl (nI_pos h2) (nI_clamp h2) hn hcells hslots rfl fun H1 cA e1 z1 o1 hAr hNm => ?_
  have hc : cA = G.2 0 := Option.some.inj (hNm.symm.trans (hK.1.2 0 _ rfl).2)
  subst hc
  exact kk H.size H1 e1 ⟨rfl, z1, o1⟩
theorem j_newL (hx : p.tables.exec = Jvm.exec) (hb : c.code = cc) (harr : (Cond.arrayClass .long).before args s = true) (hK : KK G s) {z : Int} {n : Nat} (hz : z = (n : Int)) (hn : n * 8 ≤ 536870912) (hcells : cells + 1 ≤ R.cells) (hslots : slots + n ≤ R.slots) (hdg : decode cc pc = .ok (.newarray .long, 2))
    (kk : ∀ (q : Nat) (H1 : Heap), At G H1 q (eL G n (fun _ => 0)) → Hn H H1 q → W p l e R s m args below meth c H1 locs (cells + 1) (slots + n) Q (F0 m (pc + 2) ls (.ref q :: rest))) : W p l e R s m args below meth c H locs cells slots Q (F0 m pc ls (.int (J z) :: rest)) := by
  subst hz
  have h2 : n < 2 ^ 31 := by omega
  rw [J_nat]
  refine va_newaK (atype := .long) hx hb harr rfl hdg rfl (nI_pos h2) (nI_clamp h2) hn hcells hslots rfl fun H1 cA e1 z1 o1 hAr hNm => ?_
  have hc : cA = G.2 1 := Option.some.inj (hNm.symm.trans (hK.1.2 1 _ rfl).2)
  subst hc
  exact kk H.size H1 e1 ⟨rfl, z1, o1⟩
theorem j_newZ (hx : p.tables.exec = Jvm.exec) (hb : c.code = cc) (harr : (Cond.arrayClass .boolean).before args s = true) (hK : KK G s) {z : Int} {n : Nat} (hz : z = (n : Int)) (hn : n * 1 ≤ 536870912) (hcells : cells + 1 ≤ R.cells) (hslots : slots + n ≤ R.slots) (hdg : decode cc pc = .ok (.newarray .boolean, 2))
    (kk : ∀ (q : Nat) (H1 : Heap), At G H1 q (eZ G n (fun _ => 0)) → Hn H H1 q → W p l e R s m args below meth c H1 locs (cells + 1) (slots + n) Q (F0 m (pc + 2) ls (.ref q :: rest))) : W p l e R s m args below meth c H locs cells slots Q (F0 m pc ls (.int (J z) :: rest)) := by
  subst hz
  have h2 : n < 2 ^ 31 := by omega
  rw [J_nat]
  refine va_newaK (atype := .boolean) hx hb harr rfl hdg rfl (nI_pos h2) (nI_clamp h2) hn hcells hslots rfl fun H1 cA e1 z1 o1 hAr hNm => ?_
  have hc : cA = G.2 2 := Option.some.inj (hNm.symm.trans (hK.1.2 2 _ rfl).2)
  subst hc
  exact kk H.size H1 e1 ⟨rfl, z1, o1⟩
theorem j_newQ (hx : p.tables.exec = Jvm.exec) (hb : c.code = cc) {own C : String} {index k : Nat} (hown : s.vm.findClass own = some m.cls) (hclink : (Cond.classLink own index C).before args s = true) (hover : va_AO C s) (hK : KK G s) (ht : (tysG G.2)[k]? = some (G.2 k, .object C)) {z : Int} {n : Nat} (hz : z = (n : Int)) (hn : n * 4 ≤ 536870912) (hcells : cells + 1 ≤ R.cells) (hslots : slots + n ≤ R.slots) (hdg : decode cc pc = .ok (.anewarray index, 3))
    (kk : ∀ (q : Nat) (H1 : Heap), At G H1 q (eQ G k n (fun _ => none)) → Hn H H1 q → W p l e R s m args below meth c H1 locs (cells + 1) (slots + n) Q (F0 m (pc + 3) ls (.ref q :: rest))) : W p l e R s m args below meth c H locs cells slots Q (F0 m pc ls (.int (J z) :: rest)) := by
  subst hz
  have h2 : n < 2 ^ 31 := by omega
  have h3 : (nI n).toNatClampNeg = n := nI_clamp h2
  rw [J_nat]
  refine W.anew hx hb hown hclink (va_AO.use hover) rfl hdg rfl (nI_pos h2) (by rw [h3]; exact hn) hcells (by rw [h3]; exact hslots) fun cA kA comp f1 f2 f3 f4 => ?_
  rw [h3]
  obtain ⟨kA2, comp2, k1, k2, k3, k4⟩ := (hK.1.2 k _ ht).2
  have hc : cA = G.2 k := Option.some.inj (f1.symm.trans k4)
  subst hc
  refine kk H.size _ ?_ ⟨rfl, by rw [Array.size_push], fun q hq => by rw [Array.getElem?_push, if_neg (Nat.ne_of_lt hq)]⟩
  show _ = some (vp_cell _ _)
  rw [vp_cell_q, Array.getElem?_push_size, ← arrV_new]
  rfl
end JROWS
