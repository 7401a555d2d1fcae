section
-- ===== PART A: goes FIRST, ahead of the names: the tables' words, and 'selects' of the private methods out of them =====
/-- a private method of a class that the tables say can be made, by its rows of tables_1 -/
def lw_okq (q : MethodName × Nat) : Prop := (q.1.cls ≠ "java/lang/invoke/MethodHandle" ∧ q.1.cls ≠ "java/lang/invoke/VarHandle") ∧ Cond.instantiable q.1.cls q.2 ∈ tables_1 ∧ Cond.privateMethod q.1 ∈ tables_1 ∧ Cond.instanceMethod q.1 ∈ tables_1
theorem lw_p0 : lw_okq (⟨"RateBook$Town", "rentsOf", "(III)I"⟩, 2) := ⟨⟨by decide +kernel, by decide +kernel⟩, List.mem_of_getElem? (i := 21) (by decide +kernel), List.mem_of_getElem? (i := 177) (by decide +kernel), List.mem_of_getElem? (i := 178) (by decide +kernel)⟩
theorem lw_p1 : lw_okq (⟨"RateBook$Town", "middleOf", "(IIII)LRateBook$House;"⟩, 2) := ⟨⟨by decide +kernel, by decide +kernel⟩, List.mem_of_getElem? (i := 21) (by decide +kernel), List.mem_of_getElem? (i := 185) (by decide +kernel), List.mem_of_getElem? (i := 186) (by decide +kernel)⟩
theorem lw_p2 : lw_okq (⟨"RateBook$Town", "lesserThan", "(LRateBook$House;III)I"⟩, 2) := ⟨⟨by decide +kernel, by decide +kernel⟩, List.mem_of_getElem? (i := 21) (by decide +kernel), List.mem_of_getElem? (i := 189) (by decide +kernel), List.mem_of_getElem? (i := 190) (by decide +kernel)⟩
theorem lw_p3 : lw_okq (⟨"RateBook", "cutLike", "(LRateBook$House;II)I"⟩, 4) := ⟨⟨by decide +kernel, by decide +kernel⟩, List.mem_of_getElem? (i := 13) (by decide +kernel), List.mem_of_getElem? (i := 309) (by decide +kernel), List.mem_of_getElem? (i := 310) (by decide +kernel)⟩
theorem lw_p4 : lw_okq (⟨"RateBook", "worthOn", "(LRateBook$House;I)I"⟩, 4) := ⟨⟨by decide +kernel, by decide +kernel⟩, List.mem_of_getElem? (i := 13) (by decide +kernel), List.mem_of_getElem? (i := 344) (by decide +kernel), List.mem_of_getElem? (i := 345) (by decide +kernel)⟩
theorem lw_p5 : lw_okq (⟨"RateBook", "countedOn", "(LRateBook$House;I)I"⟩, 4) := ⟨⟨by decide +kernel, by decide +kernel⟩, List.mem_of_getElem? (i := 13) (by decide +kernel), List.mem_of_getElem? (i := 362) (by decide +kernel), List.mem_of_getElem? (i := 363) (by decide +kernel)⟩
theorem lw_p6 : lw_okq (⟨"RateBook", "sumOfYear", "(LRateBook$House;I)J"⟩, 4) := ⟨⟨by decide +kernel, by decide +kernel⟩, List.mem_of_getElem? (i := 13) (by decide +kernel), List.mem_of_getElem? (i := 375) (by decide +kernel), List.mem_of_getElem? (i := 376) (by decide +kernel)⟩
theorem lw_p7 : lw_okq (⟨"RateBook", "readYearSums", "(I)V"⟩, 4) := ⟨⟨by decide +kernel, by decide +kernel⟩, List.mem_of_getElem? (i := 13) (by decide +kernel), List.mem_of_getElem? (i := 404) (by decide +kernel), List.mem_of_getElem? (i := 405) (by decide +kernel)⟩
theorem lw_p8 : lw_okq (⟨"RateBook", "leastPoundage", "(I)I"⟩, 4) := ⟨⟨by decide +kernel, by decide +kernel⟩, List.mem_of_getElem? (i := 13) (by decide +kernel), List.mem_of_getElem? (i := 408) (by decide +kernel), List.mem_of_getElem? (i := 409) (by decide +kernel)⟩
theorem lw_p9 : lw_okq (⟨"RateBook", "billsTogether", "(I)J"⟩, 4) := ⟨⟨by decide +kernel, by decide +kernel⟩, List.mem_of_getElem? (i := 13) (by decide +kernel), List.mem_of_getElem? (i := 412) (by decide +kernel), List.mem_of_getElem? (i := 413) (by decide +kernel)⟩
theorem lw_p10 : lw_okq (⟨"RateBook", "bookOf", "(I)LRateBook$YearBook;"⟩, 4) := ⟨⟨by decide +kernel, by decide +kernel⟩, List.mem_of_getElem? (i := 13) (by decide +kernel), List.mem_of_getElem? (i := 420) (by decide +kernel), List.mem_of_getElem? (i := 421) (by decide +kernel)⟩
theorem lw_p11 : lw_okq (⟨"RateBook", "openOf", "(II)I"⟩, 4) := ⟨⟨by decide +kernel, by decide +kernel⟩, List.mem_of_getElem? (i := 13) (by decide +kernel), List.mem_of_getElem? (i := 453) (by decide +kernel), List.mem_of_getElem? (i := 454) (by decide +kernel)⟩
theorem lw_p12 : lw_okq (⟨"RateBook", "billedIn", "(ILRateBook$YearBook;)I"⟩, 4) := ⟨⟨by decide +kernel, by decide +kernel⟩, List.mem_of_getElem? (i := 13) (by decide +kernel), List.mem_of_getElem? (i := 464) (by decide +kernel), List.mem_of_getElem? (i := 465) (by decide +kernel)⟩
theorem lw_p13 : lw_okq (⟨"RateBook", "paidIn", "(ILRateBook$YearBook;)I"⟩, 4) := ⟨⟨by decide +kernel, by decide +kernel⟩, List.mem_of_getElem? (i := 13) (by decide +kernel), List.mem_of_getElem? (i := 473) (by decide +kernel), List.mem_of_getElem? (i := 474) (by decide +kernel)⟩
theorem lw_p14 : lw_okq (⟨"RateBook", "struckYears", "()I"⟩, 4) := ⟨⟨by decide +kernel, by decide +kernel⟩, List.mem_of_getElem? (i := 13) (by decide +kernel), List.mem_of_getElem? (i := 485) (by decide +kernel), List.mem_of_getElem? (i := 486) (by decide +kernel)⟩
theorem lw_p15 : lw_okq (⟨"RateBookModel", "isHouse", "(I)Z"⟩, 22) := ⟨⟨by decide +kernel, by decide +kernel⟩, List.mem_of_getElem? (i := 493) (by decide +kernel), List.mem_of_getElem? (i := 579) (by decide +kernel), List.mem_of_getElem? (i := 580) (by decide +kernel)⟩
def lw_privs_1 : List (MethodName × Nat) := [(⟨"RateBook$Town", "rentsOf", "(III)I"⟩, 2), (⟨"RateBook$Town", "middleOf", "(IIII)LRateBook$House;"⟩, 2), (⟨"RateBook$Town", "lesserThan", "(LRateBook$House;III)I"⟩, 2), (⟨"RateBook", "cutLike", "(LRateBook$House;II)I"⟩, 4), (⟨"RateBook", "worthOn", "(LRateBook$House;I)I"⟩, 4), (⟨"RateBook", "countedOn", "(LRateBook$House;I)I"⟩, 4), (⟨"RateBook", "sumOfYear", "(LRateBook$House;I)J"⟩, 4), (⟨"RateBook", "readYearSums", "(I)V"⟩, 4), (⟨"RateBook", "leastPoundage", "(I)I"⟩, 4), (⟨"RateBook", "billsTogether", "(I)J"⟩, 4), (⟨"RateBook", "bookOf", "(I)LRateBook$YearBook;"⟩, 4), (⟨"RateBook", "openOf", "(II)I"⟩, 4), (⟨"RateBook", "billedIn", "(ILRateBook$YearBook;)I"⟩, 4), (⟨"RateBook", "paidIn", "(ILRateBook$YearBook;)I"⟩, 4), (⟨"RateBook", "struckYears", "()I"⟩, 4), (⟨"RateBookModel", "isHouse", "(I)Z"⟩, 22)]
theorem lw_r1 : ∀ q ∈ lw_privs_1, lw_okq q := List.forall_mem_cons.mpr ⟨lw_p0, List.forall_mem_cons.mpr ⟨lw_p1, List.forall_mem_cons.mpr ⟨lw_p2, List.forall_mem_cons.mpr ⟨lw_p3, List.forall_mem_cons.mpr ⟨lw_p4, List.forall_mem_cons.mpr ⟨lw_p5, List.forall_mem_cons.mpr ⟨lw_p6, List.forall_mem_cons.mpr ⟨lw_p7, List.forall_mem_cons.mpr ⟨lw_p8, List.forall_mem_cons.mpr ⟨lw_p9, List.forall_mem_cons.mpr ⟨lw_p10, List.forall_mem_cons.mpr ⟨lw_p11, List.forall_mem_cons.mpr ⟨lw_p12, List.forall_mem_cons.mpr ⟨lw_p13, List.forall_mem_cons.mpr ⟨lw_p14, List.forall_mem_cons.mpr ⟨lw_p15, fun _ h => absurd h List.not_mem_nil⟩⟩⟩⟩⟩⟩⟩⟩⟩⟩⟩⟩⟩⟩⟩⟩
theorem lw_p16 : lw_okq (⟨"RateBookModel", "finds", "(III)V"⟩, 22) := ⟨⟨by decide +kernel, by decide +kernel⟩, List.mem_of_getElem? (i := 493) (by decide +kernel), List.mem_of_getElem? (i := 587) (by decide +kernel), List.mem_of_getElem? (i := 588) (by decide +kernel)⟩
theorem lw_p17 : lw_okq (⟨"RateBookModel", "middle", "(III)V"⟩, 22) := ⟨⟨by decide +kernel, by decide +kernel⟩, List.mem_of_getElem? (i := 493) (by decide +kernel), List.mem_of_getElem? (i := 591) (by decide +kernel), List.mem_of_getElem? (i := 592) (by decide +kernel)⟩
theorem lw_p18 : lw_okq (⟨"RateBookModel", "isAsked", "(IIII)Z"⟩, 22) := ⟨⟨by decide +kernel, by decide +kernel⟩, List.mem_of_getElem? (i := 493) (by decide +kernel), List.mem_of_getElem? (i := 595) (by decide +kernel), List.mem_of_getElem? (i := 596) (by decide +kernel)⟩
theorem lw_p19 : lw_okq (⟨"RateBookModel", "isLess", "(II)Z"⟩, 22) := ⟨⟨by decide +kernel, by decide +kernel⟩, List.mem_of_getElem? (i := 493) (by decide +kernel), List.mem_of_getElem? (i := 599) (by decide +kernel), List.mem_of_getElem? (i := 600) (by decide +kernel)⟩
theorem lw_p20 : lw_okq (⟨"RateBookModel", "adds", "(IIII)V"⟩, 22) := ⟨⟨by decide +kernel, by decide +kernel⟩, List.mem_of_getElem? (i := 493) (by decide +kernel), List.mem_of_getElem? (i := 622) (by decide +kernel), List.mem_of_getElem? (i := 623) (by decide +kernel)⟩
theorem lw_p21 : lw_okq (⟨"RateBookModel", "isLike", "(II)Z"⟩, 22) := ⟨⟨by decide +kernel, by decide +kernel⟩, List.mem_of_getElem? (i := 493) (by decide +kernel), List.mem_of_getElem? (i := 630) (by decide +kernel), List.mem_of_getElem? (i := 631) (by decide +kernel)⟩
theorem lw_p22 : lw_okq (⟨"RateBookModel", "sizeOn", "(II)I"⟩, 22) := ⟨⟨by decide +kernel, by decide +kernel⟩, List.mem_of_getElem? (i := 493) (by decide +kernel), List.mem_of_getElem? (i := 642) (by decide +kernel), List.mem_of_getElem? (i := 643) (by decide +kernel)⟩
theorem lw_p23 : lw_okq (⟨"RateBookModel", "counting", "(III)I"⟩, 22) := ⟨⟨by decide +kernel, by decide +kernel⟩, List.mem_of_getElem? (i := 493) (by decide +kernel), List.mem_of_getElem? (i := 646) (by decide +kernel), List.mem_of_getElem? (i := 647) (by decide +kernel)⟩
theorem lw_p24 : lw_okq (⟨"RateBookModel", "useOn", "(II)I"⟩, 22) := ⟨⟨by decide +kernel, by decide +kernel⟩, List.mem_of_getElem? (i := 493) (by decide +kernel), List.mem_of_getElem? (i := 650) (by decide +kernel), List.mem_of_getElem? (i := 651) (by decide +kernel)⟩
theorem lw_p25 : lw_okq (⟨"RateBookModel", "worthOn", "(II)I"⟩, 22) := ⟨⟨by decide +kernel, by decide +kernel⟩, List.mem_of_getElem? (i := 493) (by decide +kernel), List.mem_of_getElem? (i := 654) (by decide +kernel), List.mem_of_getElem? (i := 655) (by decide +kernel)⟩
theorem lw_p26 : lw_okq (⟨"RateBookModel", "listOn", "(I)I"⟩, 22) := ⟨⟨by decide +kernel, by decide +kernel⟩, List.mem_of_getElem? (i := 493) (by decide +kernel), List.mem_of_getElem? (i := 658) (by decide +kernel), List.mem_of_getElem? (i := 659) (by decide +kernel)⟩
theorem lw_p27 : lw_okq (⟨"RateBookModel", "nextCut", "(III)I"⟩, 22) := ⟨⟨by decide +kernel, by decide +kernel⟩, List.mem_of_getElem? (i := 493) (by decide +kernel), List.mem_of_getElem? (i := 662) (by decide +kernel), List.mem_of_getElem? (i := 663) (by decide +kernel)⟩
theorem lw_p28 : lw_okq (⟨"RateBookModel", "countsOn", "(II)I"⟩, 22) := ⟨⟨by decide +kernel, by decide +kernel⟩, List.mem_of_getElem? (i := 493) (by decide +kernel), List.mem_of_getElem? (i := 667) (by decide +kernel), List.mem_of_getElem? (i := 668) (by decide +kernel)⟩
theorem lw_p29 : lw_okq (⟨"RateBookModel", "yearOf", "(II)J"⟩, 22) := ⟨⟨by decide +kernel, by decide +kernel⟩, List.mem_of_getElem? (i := 493) (by decide +kernel), List.mem_of_getElem? (i := 681) (by decide +kernel), List.mem_of_getElem? (i := 682) (by decide +kernel)⟩
theorem lw_p30 : lw_okq (⟨"RateBookModel", "least", "(II)I"⟩, 22) := ⟨⟨by decide +kernel, by decide +kernel⟩, List.mem_of_getElem? (i := 493) (by decide +kernel), List.mem_of_getElem? (i := 696) (by decide +kernel), List.mem_of_getElem? (i := 697) (by decide +kernel)⟩
def lw_privs_2 : List (MethodName × Nat) := [(⟨"RateBookModel", "finds", "(III)V"⟩, 22), (⟨"RateBookModel", "middle", "(III)V"⟩, 22), (⟨"RateBookModel", "isAsked", "(IIII)Z"⟩, 22), (⟨"RateBookModel", "isLess", "(II)Z"⟩, 22), (⟨"RateBookModel", "adds", "(IIII)V"⟩, 22), (⟨"RateBookModel", "isLike", "(II)Z"⟩, 22), (⟨"RateBookModel", "sizeOn", "(II)I"⟩, 22), (⟨"RateBookModel", "counting", "(III)I"⟩, 22), (⟨"RateBookModel", "useOn", "(II)I"⟩, 22), (⟨"RateBookModel", "worthOn", "(II)I"⟩, 22), (⟨"RateBookModel", "listOn", "(I)I"⟩, 22), (⟨"RateBookModel", "nextCut", "(III)I"⟩, 22), (⟨"RateBookModel", "countsOn", "(II)I"⟩, 22), (⟨"RateBookModel", "yearOf", "(II)J"⟩, 22), (⟨"RateBookModel", "least", "(II)I"⟩, 22)]
theorem lw_r2 : ∀ q ∈ lw_privs_2, lw_okq q := List.forall_mem_cons.mpr ⟨lw_p16, List.forall_mem_cons.mpr ⟨lw_p17, List.forall_mem_cons.mpr ⟨lw_p18, List.forall_mem_cons.mpr ⟨lw_p19, List.forall_mem_cons.mpr ⟨lw_p20, List.forall_mem_cons.mpr ⟨lw_p21, List.forall_mem_cons.mpr ⟨lw_p22, List.forall_mem_cons.mpr ⟨lw_p23, List.forall_mem_cons.mpr ⟨lw_p24, List.forall_mem_cons.mpr ⟨lw_p25, List.forall_mem_cons.mpr ⟨lw_p26, List.forall_mem_cons.mpr ⟨lw_p27, List.forall_mem_cons.mpr ⟨lw_p28, List.forall_mem_cons.mpr ⟨lw_p29, List.forall_mem_cons.mpr ⟨lw_p30, fun _ h => absurd h List.not_mem_nil⟩⟩⟩⟩⟩⟩⟩⟩⟩⟩⟩⟩⟩⟩⟩
def lw_privs : List (MethodName × Nat) := lw_privs_1 ++ (lw_privs_2)
def lw_tbl : List Cond := k2_sels lw_privs ++ tables_1
theorem lw_privs_ok : ∀ q ∈ lw_privs, lw_okq q := by
  show ∀ q ∈ lw_privs_1 ++ (lw_privs_2), lw_okq q
  exact List.forall_mem_append.mpr ⟨lw_r1, lw_r2⟩
end
section
/-! ===== BEGIN words of one list among another's, by their places ===== -/
theorem goodIn_r {big : List Cond} (ws : List Cond) (ps : List Nat) (hp : ws = ps.filterMap (fun i => big[i]?)) (h : ws.all goodWord = true) : GoodIn big ws := by
  intro w hw
  have h1 := List.all_eq_true.mp h w hw
  rw [hp] at hw
  obtain ⟨i, -, hi⟩ := List.mem_filterMap.mp hw
  have hm : w ∈ big := by first | exact List.mem_of_getElem? hi | exact List.getElem?_mem hi
  exact ⟨hm, good_of_word h1⟩
theorem goodIn_app {big a b : List Cond} (ha : GoodIn big a) (hb : GoodIn big b) : GoodIn big (a ++ b) := fun w h => (List.mem_append.mp h).elim (ha w) (hb w)
theorem goodIn_ca {big a b : List Cond} {c : Cond} (ha : GoodIn big (c :: a)) (hb : GoodIn big b) : GoodIn big (c :: (a ++ b)) := fun w h => (List.mem_cons.mp h).elim (fun e => ha w (List.mem_cons.mpr (Or.inl e))) (fun h => (List.mem_append.mp h).elim (fun h => ha w (List.mem_cons.mpr (Or.inr h))) (hb w))
theorem goodIn_sub {big ws : List Cond} (hm : ∀ w ∈ ws, w ∈ big) (h : ws.all goodWord = true) : GoodIn big ws := fun w hw => ⟨hm w hw, good_of_word (List.all_eq_true.mp h w hw)⟩
/-! ===== END ===== -/

/-! ===== BEGIN printed: names, fields, word lists, decode rows ===== -/
def RX0 : String := "RateBook$Event"
def TX0 : u_T := fun k => match k with
  | 0 => ("RateBook$Event", "number", "I", true)
  | 1 => ("RateBook$Event", "day", "I", true)
  | 2 => ("RateBook$Event", "kind", "I", true)
  | _ => ("RateBook$Event", "value", "I", true)
def tyX0 : Nat → FieldType := fun k => match k with
  | 0 => .int
  | 1 => .int
  | 2 => .int
  | _ => .int
abbrev wsX00 : List Cond := u_ws RX0 TX0 4
theorem nmX0 : ∀ a, a < 4 → ∀ b, b < 4 → a ≠ b → (TX0 a).2.1 ≠ (TX0 b).2.1 := by decide +kernel
theorem tyX0_ok : ∀ k, k < 4 → parseFieldDescriptor (TX0 k).2.2.1 = some (tyX0 k) := by decide +kernel
abbrev cX0_init : ByteArray := prog_2_method_1_code
def yX0_init : MethodName := ⟨RX0, "<init>", "(IIII)V"⟩
def RX1 : String := "RateBook$Events"
def TX1 : u_T := fun k => match k with
  | 0 => ("RateBook$Events", "byDay", "[LRateBook$Event;", true)
  | _ => ("RateBook$Events", "told", "I", false)
def tyX1 : Nat → FieldType := fun k => match k with
  | 0 => .array (.object "RateBook$Event")
  | _ => .int
abbrev wsX10 : List Cond := u_ws RX1 TX1 2
theorem nmX1 : ∀ a, a < 2 → ∀ b, b < 2 → a ≠ b → (TX1 a).2.1 ≠ (TX1 b).2.1 := by decide +kernel
theorem tyX1_ok : ∀ k, k < 2 → parseFieldDescriptor (TX1 k).2.2.1 = some (tyX1 k) := by decide +kernel
abbrev cX1_init : ByteArray := prog_3_method_1_code
def yX1_init : MethodName := ⟨RX1, "<init>", "()V"⟩
abbrev cX1_isFull : ByteArray := prog_3_method_2_code
def yX1_isFull : MethodName := ⟨RX1, "isFull", "()Z"⟩
abbrev cX1_add : ByteArray := prog_3_method_3_code
def yX1_add : MethodName := ⟨RX1, "add", "(III)V"⟩
abbrev cX1_dropLatestTold : ByteArray := prog_3_method_4_code
def yX1_dropLatestTold : MethodName := ⟨RX1, "dropLatestTold", "()V"⟩
abbrev cX1_latestOf : ByteArray := prog_3_method_5_code
def yX1_latestOf : MethodName := ⟨RX1, "latestOf", "(II)LRateBook$Event;"⟩
abbrev cX1_cutDown : ByteArray := prog_3_method_6_code
def yX1_cutDown : MethodName := ⟨RX1, "cutDown", "(JII)J"⟩
abbrev cX1_nextChange : ByteArray := prog_3_method_7_code
def yX1_nextChange : MethodName := ⟨RX1, "nextChange", "(II)I"⟩
def RX2 : String := "RateBook$House"
def TX2 : u_T := fun k => match k with
  | 0 => ("RateBook$House", "number", "I", true)
  | 1 => ("RateBook$House", "ward", "I", true)
  | 2 => ("RateBook$House", "kind", "I", true)
  | 3 => ("RateBook$House", "street", "I", true)
  | 4 => ("RateBook$House", "size", "I", true)
  | 5 => ("RateBook$House", "events", "LRateBook$Events;", true)
  | _ => ("RateBook$House", "rent", "I", false)
def tyX2 : Nat → FieldType := fun k => match k with
  | 0 => .int
  | 1 => .int
  | 2 => .int
  | 3 => .int
  | 4 => .int
  | 5 => .object "RateBook$Events"
  | _ => .int
abbrev wsX20 : List Cond := u_ws RX2 TX2 7
theorem nmX2 : ∀ a, a < 7 → ∀ b, b < 7 → a ≠ b → (TX2 a).2.1 ≠ (TX2 b).2.1 := by decide +kernel
theorem tyX2_ok : ∀ k, k < 7 → parseFieldDescriptor (TX2 k).2.2.1 = some (tyX2 k) := by decide +kernel
abbrev cX2_init : ByteArray := prog_4_method_1_code
def yX2_init : MethodName := ⟨RX2, "<init>", "(IIIIII)V"⟩
abbrev cX2_isLike : ByteArray := prog_4_method_2_code
def yX2_isLike : MethodName := ⟨RX2, "isLike", "(LRateBook$House;)Z"⟩
abbrev cX2_tells : ByteArray := prog_4_method_3_code
def yX2_tells : MethodName := ⟨RX2, "tells", "(III)Z"⟩
abbrev cX2_hasLesserRent : ByteArray := prog_4_method_4_code
def yX2_hasLesserRent : MethodName := ⟨RX2, "hasLesserRent", "(LRateBook$House;)Z"⟩
abbrev cX2_sizeOn : ByteArray := prog_4_method_5_code
def yX2_sizeOn : MethodName := ⟨RX2, "sizeOn", "(I)I"⟩
abbrev cX2_useOn : ByteArray := prog_4_method_6_code
def yX2_useOn : MethodName := ⟨RX2, "useOn", "(I)I"⟩
def RX3 : String := "RateBook$Lists"
def TX3 : u_T := fun k => match k with
  | 0 => ("RateBook$Lists", "byDay", "[LRateBook$RateList;", true)
  | _ => ("RateBook$Lists", "made", "I", false)
def tyX3 : Nat → FieldType := fun k => match k with
  | 0 => .array (.object "RateBook$RateList")
  | _ => .int
abbrev wsX30 : List Cond := u_ws RX3 TX3 2
theorem nmX3 : ∀ a, a < 2 → ∀ b, b < 2 → a ≠ b → (TX3 a).2.1 ≠ (TX3 b).2.1 := by decide +kernel
theorem tyX3_ok : ∀ k, k < 2 → parseFieldDescriptor (TX3 k).2.2.1 = some (tyX3 k) := by decide +kernel
abbrev cX3_init : ByteArray := prog_5_method_1_code
def yX3_init : MethodName := ⟨RX3, "<init>", "()V"⟩
abbrev cX3_at : ByteArray := prog_5_method_2_code
def yX3_at : MethodName := ⟨RX3, "at", "(I)LRateBook$RateList;"⟩
abbrev cX3_isFull : ByteArray := prog_5_method_3_code
def yX3_isFull : MethodName := ⟨RX3, "isFull", "()Z"⟩
abbrev cX3_reach : ByteArray := prog_5_method_4_code
def yX3_reach : MethodName := ⟨RX3, "reach", "(I)Z"⟩
abbrev cX3_add : ByteArray := prog_5_method_5_code
def yX3_add : MethodName := ⟨RX3, "add", "(ILRateBook$Town;)I"⟩
abbrev cX3_standingOn : ByteArray := prog_5_method_6_code
def yX3_standingOn : MethodName := ⟨RX3, "standingOn", "(I)I"⟩
abbrev cX3_nextChange : ByteArray := prog_5_method_7_code
def yX3_nextChange : MethodName := ⟨RX3, "nextChange", "(II)I"⟩
def RX4 : String := "RateBook$RateList"
def TX4 : u_T := fun k => match k with
  | 0 => ("RateBook$RateList", "day", "I", true)
  | _ => ("RateBook$RateList", "units", "[LRateBook$Unit;", true)
def tyX4 : Nat → FieldType := fun k => match k with
  | 0 => .int
  | _ => .array (.object "RateBook$Unit")
abbrev wsX40 : List Cond := u_ws RX4 TX4 2
theorem nmX4 : ∀ a, a < 2 → ∀ b, b < 2 → a ≠ b → (TX4 a).2.1 ≠ (TX4 b).2.1 := by decide +kernel
theorem tyX4_ok : ∀ k, k < 2 → parseFieldDescriptor (TX4 k).2.2.1 = some (tyX4 k) := by decide +kernel
abbrev cX4_init : ByteArray := prog_6_method_1_code
def yX4_init : MethodName := ⟨RX4, "<init>", "(ILRateBook$Town;)V"⟩
abbrev cX4_unitFor : ByteArray := prog_6_method_2_code
def yX4_unitFor : MethodName := ⟨RX4, "unitFor", "(II)LRateBook$Unit;"⟩
def RX5 : String := "RateBook$Town"
def TX5 : u_T := fun k => match k with
  | 0 => ("RateBook$Town", "houses", "[LRateBook$House;", true)
  | _ => ("RateBook$Town", "size", "I", false)
def tyX5 : Nat → FieldType := fun k => match k with
  | 0 => .array (.object "RateBook$House")
  | _ => .int
abbrev wsX50 : List Cond := u_ws RX5 TX5 2
theorem nmX5 : ∀ a, a < 2 → ∀ b, b < 2 → a ≠ b → (TX5 a).2.1 ≠ (TX5 b).2.1 := by decide +kernel
theorem tyX5_ok : ∀ k, k < 2 → parseFieldDescriptor (TX5 k).2.2.1 = some (tyX5 k) := by decide +kernel
abbrev cX5_init : ByteArray := prog_7_method_1_code
def yX5_init : MethodName := ⟨RX5, "<init>", "()V"⟩
abbrev cX5_at : ByteArray := prog_7_method_2_code
def yX5_at : MethodName := ⟨RX5, "at", "(I)LRateBook$House;"⟩
abbrev cX5_add : ByteArray := prog_7_method_3_code
def yX5_add : MethodName := ⟨RX5, "add", "(IIIII)I"⟩
abbrev cX5_isIn : ByteArray := prog_7_method_4_code
def yX5_isIn : MethodName := ⟨RX5, "isIn", "(II)Z"⟩
abbrev cX5_eventsTold : ByteArray := prog_7_method_5_code
def yX5_eventsTold : MethodName := ⟨RX5, "eventsTold", "()I"⟩
abbrev cX5_rentsKnown : ByteArray := prog_7_method_6_code
def yX5_rentsKnown : MethodName := ⟨RX5, "rentsKnown", "()I"⟩
abbrev cX5_unitOf : ByteArray := prog_7_method_7_code
def yX5_unitOf : MethodName := ⟨RX5, "unitOf", "(III)LRateBook$Unit;"⟩
abbrev cX5_rentsOf : ByteArray := prog_7_method_8_code
def yX5_rentsOf : MethodName := ⟨RX5, "rentsOf", "(III)I"⟩
abbrev cX5_middleOf : ByteArray := prog_7_method_9_code
def yX5_middleOf : MethodName := ⟨RX5, "middleOf", "(IIII)LRateBook$House;"⟩
abbrev cX5_lesserThan : ByteArray := prog_7_method_10_code
def yX5_lesserThan : MethodName := ⟨RX5, "lesserThan", "(LRateBook$House;III)I"⟩
def RX6 : String := "RateBook$Unit"
def TX6 : u_T := fun k => match k with
  | 0 => ("RateBook$Unit", "above", "I", true)
  | 1 => ("RateBook$Unit", "below", "I", true)
  | 2 => ("RateBook$Unit", "rents", "I", true)
  | _ => ("RateBook$Unit", "house", "I", true)
def tyX6 : Nat → FieldType := fun k => match k with
  | 0 => .int
  | 1 => .int
  | 2 => .int
  | _ => .int
abbrev wsX60 : List Cond := u_ws RX6 TX6 4
theorem nmX6 : ∀ a, a < 4 → ∀ b, b < 4 → a ≠ b → (TX6 a).2.1 ≠ (TX6 b).2.1 := by decide +kernel
theorem tyX6_ok : ∀ k, k < 4 → parseFieldDescriptor (TX6 k).2.2.1 = some (tyX6 k) := by decide +kernel
abbrev cX6_init : ByteArray := prog_8_method_1_code
def yX6_init : MethodName := ⟨RX6, "<init>", "(IIII)V"⟩
abbrev cX6_times : ByteArray := prog_8_method_2_code
def yX6_times : MethodName := ⟨RX6, "times", "(I)J"⟩
def RX7 : String := "RateBook$YearBook"
def TX7 : u_T := fun k => match k with
  | 0 => ("RateBook$YearBook", "billed", "[I", true)
  | 1 => ("RateBook$YearBook", "payments", "[I", true)
  | 2 => ("RateBook$YearBook", "isStruck", "Z", false)
  | 3 => ("RateBook$YearBook", "needs", "I", false)
  | _ => ("RateBook$YearBook", "thousandths", "I", false)
def tyX7 : Nat → FieldType := fun k => match k with
  | 0 => .array .int
  | 1 => .array .int
  | 2 => .boolean
  | 3 => .int
  | _ => .int
abbrev wsX70 : List Cond := u_ws RX7 TX7 5
theorem nmX7 : ∀ a, a < 5 → ∀ b, b < 5 → a ≠ b → (TX7 a).2.1 ≠ (TX7 b).2.1 := by decide +kernel
theorem tyX7_ok : ∀ k, k < 5 → parseFieldDescriptor (TX7 k).2.2.1 = some (tyX7 k) := by decide +kernel
abbrev cX7_init : ByteArray := prog_9_method_1_code
def yX7_init : MethodName := ⟨RX7, "<init>", "()V"⟩
abbrev cX7_billedTo : ByteArray := prog_9_method_2_code
def yX7_billedTo : MethodName := ⟨RX7, "billedTo", "(I)I"⟩
abbrev cX7_paidBy : ByteArray := prog_9_method_3_code
def yX7_paidBy : MethodName := ⟨RX7, "paidBy", "(I)I"⟩
abbrev cX7_putBilled : ByteArray := prog_9_method_4_code
def yX7_putBilled : MethodName := ⟨RX7, "putBilled", "(II)V"⟩
abbrev cX7_putPaid : ByteArray := prog_9_method_5_code
def yX7_putPaid : MethodName := ⟨RX7, "putPaid", "(II)V"⟩
def RX8 : String := "RateBook"
def TX8 : u_T := fun k => match k with
  | 0 => ("RateBook", "town", "LRateBook$Town;", true)
  | 1 => ("RateBook", "lists", "LRateBook$Lists;", true)
  | 2 => ("RateBook", "books", "[LRateBook$YearBook;", true)
  | _ => ("RateBook", "yearSums", "[J", true)
def tyX8 : Nat → FieldType := fun k => match k with
  | 0 => .object "RateBook$Town"
  | 1 => .object "RateBook$Lists"
  | 2 => .array (.object "RateBook$YearBook")
  | _ => .array .long
abbrev wsX80 : List Cond := u_ws RX8 TX8 4
theorem nmX8 : ∀ a, a < 4 → ∀ b, b < 4 → a ≠ b → (TX8 a).2.1 ≠ (TX8 b).2.1 := by decide +kernel
theorem tyX8_ok : ∀ k, k < 4 → parseFieldDescriptor (TX8 k).2.2.1 = some (tyX8 k) := by decide +kernel
abbrev cX8_init : ByteArray := prog_1_method_1_code
def yX8_init : MethodName := ⟨RX8, "<init>", "()V"⟩
abbrev cX8_house : ByteArray := prog_1_method_2_code
def yX8_house : MethodName := ⟨RX8, "house", "(IIIII)I"⟩
abbrev cX8_rent : ByteArray := prog_1_method_3_code
def yX8_rent : MethodName := ⟨RX8, "rent", "(II)I"⟩
abbrev cX8_unit : ByteArray := prog_1_method_4_code
def yX8_unit : MethodName := ⟨RX8, "unit", "(III)I"⟩
abbrev cX8_tested : ByteArray := prog_1_method_5_code
def yX8_tested : MethodName := ⟨RX8, "tested", "(I)I"⟩
abbrev cX8_list : ByteArray := prog_1_method_6_code
def yX8_list : MethodName := ⟨RX8, "list", "(I)I"⟩
abbrev cX8_event : ByteArray := prog_1_method_7_code
def yX8_event : MethodName := ⟨RX8, "event", "(IIII)I"⟩
abbrev cX8_appeal : ByteArray := prog_1_method_8_code
def yX8_appeal : MethodName := ⟨RX8, "appeal", "(IIIZ)I"⟩
abbrev cX8_strike : ByteArray := prog_1_method_9_code
def yX8_strike : MethodName := ⟨RX8, "strike", "(I)I"⟩
abbrev cX8_on : ByteArray := prog_1_method_10_code
def yX8_on : MethodName := ⟨RX8, "on", "(III)I"⟩
abbrev cX8_year : ByteArray := prog_1_method_11_code
def yX8_year : MethodName := ⟨RX8, "year", "(II)J"⟩
abbrev cX8_bill : ByteArray := prog_1_method_12_code
def yX8_bill : MethodName := ⟨RX8, "bill", "(III)I"⟩
abbrev cX8_poundage : ByteArray := prog_1_method_13_code
def yX8_poundage : MethodName := ⟨RX8, "poundage", "(II)I"⟩
abbrev cX8_struck : ByteArray := prog_1_method_14_code
def yX8_struck : MethodName := ⟨RX8, "struck", "(II)I"⟩
abbrev cX8_pay : ByteArray := prog_1_method_15_code
def yX8_pay : MethodName := ⟨RX8, "pay", "(III)I"⟩
abbrev cX8_paid : ByteArray := prog_1_method_16_code
def yX8_paid : MethodName := ⟨RX8, "paid", "(III)I"⟩
abbrev cX8_owed : ByteArray := prog_1_method_17_code
def yX8_owed : MethodName := ⟨RX8, "owed", "(II)I"⟩
abbrev cX8_ward : ByteArray := prog_1_method_18_code
def yX8_ward : MethodName := ⟨RX8, "ward", "(III)I"⟩
abbrev cX8_count : ByteArray := prog_1_method_19_code
def yX8_count : MethodName := ⟨RX8, "count", "(I)I"⟩
abbrev cX8_isWithin : ByteArray := prog_1_method_20_code
def yX8_isWithin : MethodName := ⟨RX8, "isWithin", "(III)Z"⟩
abbrev cX8_isOf : ByteArray := prog_1_method_21_code
def yX8_isOf : MethodName := ⟨RX8, "isOf", "(II)Z"⟩
abbrev cX8_sooner : ByteArray := prog_1_method_22_code
def yX8_sooner : MethodName := ⟨RX8, "sooner", "(III)I"⟩
abbrev cX8_isEvent : ByteArray := prog_1_method_23_code
def yX8_isEvent : MethodName := ⟨RX8, "isEvent", "(II)Z"⟩
abbrev cX8_cutOne : ByteArray := prog_1_method_24_code
def yX8_cutOne : MethodName := ⟨RX8, "cutOne", "(LRateBook$House;II)I"⟩
abbrev cX8_cutLike : ByteArray := prog_1_method_25_code
def yX8_cutLike : MethodName := ⟨RX8, "cutLike", "(LRateBook$House;II)I"⟩
abbrev cX8_worthOn : ByteArray := prog_1_method_26_code
def yX8_worthOn : MethodName := ⟨RX8, "worthOn", "(LRateBook$House;I)I"⟩
abbrev cX8_countedOn : ByteArray := prog_1_method_27_code
def yX8_countedOn : MethodName := ⟨RX8, "countedOn", "(LRateBook$House;I)I"⟩
abbrev cX8_relieved : ByteArray := prog_1_method_28_code
def yX8_relieved : MethodName := ⟨RX8, "relieved", "(I)I"⟩
abbrev cX8_sumOfYear : ByteArray := prog_1_method_29_code
def yX8_sumOfYear : MethodName := ⟨RX8, "sumOfYear", "(LRateBook$House;I)J"⟩
abbrev cX8_billFor : ByteArray := prog_1_method_30_code
def yX8_billFor : MethodName := ⟨RX8, "billFor", "(JI)I"⟩
abbrev cX8_readYearSums : ByteArray := prog_1_method_31_code
def yX8_readYearSums : MethodName := ⟨RX8, "readYearSums", "(I)V"⟩
abbrev cX8_billsTogether : ByteArray := prog_1_method_32_code
def yX8_billsTogether : MethodName := ⟨RX8, "billsTogether", "(I)J"⟩
abbrev cX8_leastPoundage : ByteArray := prog_1_method_33_code
def yX8_leastPoundage : MethodName := ⟨RX8, "leastPoundage", "(I)I"⟩
abbrev cX8_bookOf : ByteArray := prog_1_method_34_code
def yX8_bookOf : MethodName := ⟨RX8, "bookOf", "(I)LRateBook$YearBook;"⟩
abbrev cX8_openOf : ByteArray := prog_1_method_35_code
def yX8_openOf : MethodName := ⟨RX8, "openOf", "(II)I"⟩
abbrev cX8_billedIn : ByteArray := prog_1_method_36_code
def yX8_billedIn : MethodName := ⟨RX8, "billedIn", "(ILRateBook$YearBook;)I"⟩
abbrev cX8_paidIn : ByteArray := prog_1_method_37_code
def yX8_paidIn : MethodName := ⟨RX8, "paidIn", "(ILRateBook$YearBook;)I"⟩
abbrev cX8_struckYears : ByteArray := prog_1_method_38_code
def yX8_struckYears : MethodName := ⟨RX8, "struckYears", "()I"⟩
def RX9 : String := "RateBookModel"
def TX9 : u_T := fun k => match k with
  | 0 => ("RateBookModel", "houses", "I", false)
  | 1 => ("RateBookModel", "ward", "[I", true)
  | 2 => ("RateBookModel", "kind", "[I", true)
  | 3 => ("RateBookModel", "street", "[I", true)
  | 4 => ("RateBookModel", "size", "[I", true)
  | 5 => ("RateBookModel", "rent", "[I", true)
  | 6 => ("RateBookModel", "events", "[I", true)
  | 7 => ("RateBookModel", "eventDay", "[I", true)
  | 8 => ("RateBookModel", "eventKind", "[I", true)
  | 9 => ("RateBookModel", "eventValue", "[I", true)
  | 10 => ("RateBookModel", "lists", "I", false)
  | 11 => ("RateBookModel", "listDay", "[I", true)
  | 12 => ("RateBookModel", "above", "[I", true)
  | 13 => ("RateBookModel", "below", "[I", true)
  | 14 => ("RateBookModel", "isStruck", "[Z", true)
  | 15 => ("RateBookModel", "poundages", "[I", true)
  | 16 => ("RateBookModel", "needed", "[I", true)
  | 17 => ("RateBookModel", "billed", "[I", true)
  | 18 => ("RateBookModel", "payments", "[I", true)
  | 19 => ("RateBookModel", "found", "I", false)
  | 20 => ("RateBookModel", "among", "I", false)
  | _ => ("RateBookModel", "years", "[J", true)
def tyX9 : Nat → FieldType := fun k => match k with
  | 0 => .int
  | 1 => .array .int
  | 2 => .array .int
  | 3 => .array .int
  | 4 => .array .int
  | 5 => .array .int
  | 6 => .array .int
  | 7 => .array .int
  | 8 => .array .int
  | 9 => .array .int
  | 10 => .int
  | 11 => .array .int
  | 12 => .array .int
  | 13 => .array .int
  | 14 => .array .boolean
  | 15 => .array .int
  | 16 => .array .int
  | 17 => .array .int
  | 18 => .array .int
  | 19 => .int
  | 20 => .int
  | _ => .array .long
abbrev wsX90 : List Cond := u_ws RX9 TX9 22
theorem nmX9 : ∀ a, a < 22 → ∀ b, b < 22 → a ≠ b → (TX9 a).2.1 ≠ (TX9 b).2.1 := by decide +kernel
theorem tyX9_ok : ∀ k, k < 22 → parseFieldDescriptor (TX9 k).2.2.1 = some (tyX9 k) := by decide +kernel
abbrev cX9_init : ByteArray := prog_11_method_1_code
def yX9_init : MethodName := ⟨RX9, "<init>", "()V"⟩
abbrev cX9_in : ByteArray := prog_11_method_2_code
def yX9_in : MethodName := ⟨RX9, "in", "(III)Z"⟩
abbrev cX9_isHouse : ByteArray := prog_11_method_3_code
def yX9_isHouse : MethodName := ⟨RX9, "isHouse", "(I)Z"⟩
abbrev cX9_isDay : ByteArray := prog_11_method_4_code
def yX9_isDay : MethodName := ⟨RX9, "isDay", "(I)Z"⟩
abbrev cX9_house : ByteArray := prog_11_method_5_code
def yX9_house : MethodName := ⟨RX9, "house", "(IIIII)I"⟩
abbrev cX9_rent : ByteArray := prog_11_method_6_code
def yX9_rent : MethodName := ⟨RX9, "rent", "(II)I"⟩
abbrev cX9_isAsked : ByteArray := prog_11_method_7_code
def yX9_isAsked : MethodName := ⟨RX9, "isAsked", "(IIII)Z"⟩
abbrev cX9_isLess : ByteArray := prog_11_method_8_code
def yX9_isLess : MethodName := ⟨RX9, "isLess", "(II)Z"⟩
abbrev cX9_middle : ByteArray := prog_11_method_9_code
def yX9_middle : MethodName := ⟨RX9, "middle", "(III)V"⟩
abbrev cX9_finds : ByteArray := prog_11_method_10_code
def yX9_finds : MethodName := ⟨RX9, "finds", "(III)V"⟩
abbrev cX9_unit : ByteArray := prog_11_method_11_code
def yX9_unit : MethodName := ⟨RX9, "unit", "(III)I"⟩
abbrev cX9_tested : ByteArray := prog_11_method_12_code
def yX9_tested : MethodName := ⟨RX9, "tested", "(I)I"⟩
abbrev cX9_list : ByteArray := prog_11_method_13_code
def yX9_list : MethodName := ⟨RX9, "list", "(I)I"⟩
abbrev cX9_isValue : ByteArray := prog_11_method_14_code
def yX9_isValue : MethodName := ⟨RX9, "isValue", "(II)Z"⟩
abbrev cX9_adds : ByteArray := prog_11_method_15_code
def yX9_adds : MethodName := ⟨RX9, "adds", "(IIII)V"⟩
abbrev cX9_event : ByteArray := prog_11_method_16_code
def yX9_event : MethodName := ⟨RX9, "event", "(IIII)I"⟩
abbrev cX9_isLike : ByteArray := prog_11_method_17_code
def yX9_isLike : MethodName := ⟨RX9, "isLike", "(II)Z"⟩
abbrev cX9_appeal : ByteArray := prog_11_method_18_code
def yX9_appeal : MethodName := ⟨RX9, "appeal", "(IIIZ)I"⟩
abbrev cX9_strike : ByteArray := prog_11_method_19_code
def yX9_strike : MethodName := ⟨RX9, "strike", "(I)I"⟩
abbrev cX9_counting : ByteArray := prog_11_method_20_code
def yX9_counting : MethodName := ⟨RX9, "counting", "(III)I"⟩
abbrev cX9_sizeOn : ByteArray := prog_11_method_21_code
def yX9_sizeOn : MethodName := ⟨RX9, "sizeOn", "(II)I"⟩
abbrev cX9_useOn : ByteArray := prog_11_method_22_code
def yX9_useOn : MethodName := ⟨RX9, "useOn", "(II)I"⟩
abbrev cX9_listOn : ByteArray := prog_11_method_23_code
def yX9_listOn : MethodName := ⟨RX9, "listOn", "(I)I"⟩
abbrev cX9_worthOn : ByteArray := prog_11_method_24_code
def yX9_worthOn : MethodName := ⟨RX9, "worthOn", "(II)I"⟩
abbrev cX9_nextCut : ByteArray := prog_11_method_25_code
def yX9_nextCut : MethodName := ⟨RX9, "nextCut", "(III)I"⟩
abbrev cX9_countsOn : ByteArray := prog_11_method_26_code
def yX9_countsOn : MethodName := ⟨RX9, "countsOn", "(II)I"⟩
abbrev cX9_relieved : ByteArray := prog_11_method_27_code
def yX9_relieved : MethodName := ⟨RX9, "relieved", "(I)I"⟩
abbrev cX9_on : ByteArray := prog_11_method_28_code
def yX9_on : MethodName := ⟨RX9, "on", "(III)I"⟩
abbrev cX9_isYear : ByteArray := prog_11_method_29_code
def yX9_isYear : MethodName := ⟨RX9, "isYear", "(I)Z"⟩
abbrev cX9_yearOf : ByteArray := prog_11_method_30_code
def yX9_yearOf : MethodName := ⟨RX9, "yearOf", "(II)J"⟩
abbrev cX9_year : ByteArray := prog_11_method_31_code
def yX9_year : MethodName := ⟨RX9, "year", "(II)J"⟩
abbrev cX9_bill : ByteArray := prog_11_method_32_code
def yX9_bill : MethodName := ⟨RX9, "bill", "(III)I"⟩
abbrev cX9_least : ByteArray := prog_11_method_33_code
def yX9_least : MethodName := ⟨RX9, "least", "(II)I"⟩
abbrev cX9_poundage : ByteArray := prog_11_method_34_code
def yX9_poundage : MethodName := ⟨RX9, "poundage", "(II)I"⟩
abbrev cX9_struck : ByteArray := prog_11_method_35_code
def yX9_struck : MethodName := ⟨RX9, "struck", "(II)I"⟩
abbrev cX9_pay : ByteArray := prog_11_method_36_code
def yX9_pay : MethodName := ⟨RX9, "pay", "(III)I"⟩
abbrev cX9_paid : ByteArray := prog_11_method_37_code
def yX9_paid : MethodName := ⟨RX9, "paid", "(III)I"⟩
abbrev cX9_owed : ByteArray := prog_11_method_38_code
def yX9_owed : MethodName := ⟨RX9, "owed", "(II)I"⟩
abbrev cX9_ward : ByteArray := prog_11_method_39_code
def yX9_ward : MethodName := ⟨RX9, "ward", "(III)I"⟩
abbrev cX9_count : ByteArray := prog_11_method_40_code
def yX9_count : MethodName := ⟨RX9, "count", "(I)I"⟩
def RJ9 : String := "java/lang/Math"
def TJ9 : u_T := fun k => match k with
  | _ => ("", "", "", false)
def tyJ9 : Nat → FieldType := fun k => match k with
  | _ => .int
abbrev wsJ90 : List Cond := u_ws RJ9 TJ9 0
theorem nmJ9 : ∀ a, a < 0 → ∀ b, b < 0 → a ≠ b → (TJ9 a).2.1 ≠ (TJ9 b).2.1 := by decide +kernel
theorem tyJ9_ok : ∀ k, k < 0 → parseFieldDescriptor (TJ9 k).2.2.1 = some (tyJ9 k) := by decide +kernel
abbrev cJ9_max_7cf53 : ByteArray := prog_12_method_65_code
def yJ9_max_7cf53 : MethodName := ⟨RJ9, "max", "(II)I"⟩
def RL : String := "RateBookLaw"
abbrev cL_law : ByteArray := code
def yL_law : MethodName := ⟨RL, "law", "([I)Z"⟩
def wsX0_init : List Cond := .code yX0_init cX0_init 5 none :: ([.methodLink RX0 1 objectInit, .instanceMethod objectInit, .code objectInit ⟨#[0xb1]⟩ 1 none, .fieldLink RX0 7 "RateBook$Event" "number" "I", .fieldLink RX0 13 "RateBook$Event" "day" "I", .fieldLink RX0 16 "RateBook$Event" "kind" "I", .fieldLink RX0 19 "RateBook$Event" "value" "I"] ++ wsX00)
def wsX1_init : List Cond := .code yX1_init cX1_init 1 none :: ([.methodLink RX1 3 objectInit, .instanceMethod objectInit, .code objectInit ⟨#[0xb1]⟩ 1 none, .classLink RX1 9 RX0, .fieldLink RX1 11 "RateBook$Events" "byDay" "[LRateBook$Event;"] ++ wsX10)
def wsX1_isFull : List Cond := .code yX1_isFull cX1_isFull 1 (some .boolean) :: ([.fieldLink RX1 17 "RateBook$Events" "told" "I", .fieldLink RX1 11 "RateBook$Events" "byDay" "[LRateBook$Event;"] ++ wsX10)
def wsX1_add : List Cond := .code yX1_add cX1_add 6 none :: ([.fieldLink RX1 17 "RateBook$Events" "told" "I", .fieldLink RX1 11 "RateBook$Events" "byDay" "[LRateBook$Event;", .fieldLink RX1 21 "RateBook$Event" "day" "I", .classLink RX1 9 RX0, .instantiable RX0 4, .initialized RX0, .methodLink RX1 24 yX0_init, .instanceMethod yX0_init, .code yX0_init cX0_init 5 none, .methodLink RX0 1 objectInit, .instanceMethod objectInit, .code objectInit ⟨#[0xb1]⟩ 1 none, .fieldLink RX0 7 "RateBook$Event" "number" "I", .fieldLink RX0 13 "RateBook$Event" "day" "I", .fieldLink RX0 16 "RateBook$Event" "kind" "I", .fieldLink RX0 19 "RateBook$Event" "value" "I"] ++ wsX10 ++ wsX00)
def wsX1_dropLatestTold : List Cond := .code yX1_dropLatestTold cX1_dropLatestTold 4 none :: ([.fieldLink RX1 17 "RateBook$Events" "told" "I", .fieldLink RX1 11 "RateBook$Events" "byDay" "[LRateBook$Event;", .fieldLink RX1 27 "RateBook$Event" "number" "I"] ++ wsX10 ++ wsX00)
def wsX1_latestOf : List Cond := .code yX1_latestOf cX1_latestOf 6 (some (.object "RateBook$Event")) :: ([.fieldLink RX1 11 "RateBook$Events" "byDay" "[LRateBook$Event;", .fieldLink RX1 30 "RateBook$Event" "kind" "I", .fieldLink RX1 21 "RateBook$Event" "day" "I"] ++ wsX10 ++ wsX00)
def wsX1_cutDown : List Cond := .code yX1_cutDown cX1_cutDown 9 (some .long) :: ([.fieldLink RX1 11 "RateBook$Events" "byDay" "[LRateBook$Event;", .fieldLink RX1 30 "RateBook$Event" "kind" "I", .fieldLink RX1 21 "RateBook$Event" "day" "I", .fieldLink RX1 33 "RateBook$Event" "value" "I", .constantLong RX1 36 (1000)] ++ wsX10 ++ wsX00)
def wsX8_sooner : List Cond := .code yX8_sooner cX8_sooner 3 (some .int) :: ([])
def wsX1_nextChange : List Cond := .code yX1_nextChange cX1_nextChange 6 (some .int) :: ([.fieldLink RX1 11 "RateBook$Events" "byDay" "[LRateBook$Event;", .fieldLink RX1 21 "RateBook$Event" "day" "I", .static yX8_sooner, .initialized RX8, .code yX8_sooner cX8_sooner 3 (some .int)] ++ wsX10 ++ wsX00)
def wsX2_init : List Cond := .code yX2_init cX2_init 7 none :: ([.methodLink RX2 3 objectInit, .instanceMethod objectInit, .code objectInit ⟨#[0xb1]⟩ 1 none, .fieldLink RX2 9 "RateBook$House" "number" "I", .fieldLink RX2 15 "RateBook$House" "ward" "I", .fieldLink RX2 18 "RateBook$House" "kind" "I", .fieldLink RX2 21 "RateBook$House" "street" "I", .fieldLink RX2 24 "RateBook$House" "size" "I", .fieldLink RX2 27 "RateBook$House" "rent" "I", .classLink RX2 30 RX1, .instantiable RX1 2, .initialized RX1, .fieldLink RX2 33 "RateBook$House" "events" "LRateBook$Events;", .methodLink RX2 32 yX1_init, .instanceMethod yX1_init, .code yX1_init cX1_init 1 none, .methodLink RX1 3 objectInit, .classLink RX1 9 RX0, .fieldLink RX1 11 "RateBook$Events" "byDay" "[LRateBook$Event;"] ++ wsX20 ++ wsX10)
def wsX2_isLike : List Cond := .code yX2_isLike cX2_isLike 2 (some .boolean) :: ([.fieldLink RX2 18 "RateBook$House" "kind" "I", .fieldLink RX2 21 "RateBook$House" "street" "I"] ++ wsX20)
def wsX2_tells : List Cond := .code yX2_tells cX2_tells 4 (some .boolean) :: ([.fieldLink RX2 27 "RateBook$House" "rent" "I", .fieldLink RX2 9 "RateBook$House" "number" "I", .fieldLink RX2 18 "RateBook$House" "kind" "I", .fieldLink RX2 21 "RateBook$House" "street" "I"] ++ wsX20)
def wsX2_hasLesserRent : List Cond := .code yX2_hasLesserRent cX2_hasLesserRent 6 (some .boolean) :: ([.fieldLink RX2 27 "RateBook$House" "rent" "I", .fieldLink RX2 24 "RateBook$House" "size" "I", .fieldLink RX2 9 "RateBook$House" "number" "I"] ++ wsX20)
def wsX2_sizeOn : List Cond := .code yX2_sizeOn cX2_sizeOn 3 (some .int) :: ([.fieldLink RX2 33 "RateBook$House" "events" "LRateBook$Events;", .fieldLink RX2 24 "RateBook$House" "size" "I", .fieldLink RX2 41 "RateBook$Event" "value" "I", .methodLink RX2 37 yX1_latestOf, .instanceMethod yX1_latestOf, .selects RX1 yX1_latestOf yX1_latestOf, .initialized RX1, .code yX1_latestOf cX1_latestOf 6 (some (.object "RateBook$Event")), .fieldLink RX1 11 "RateBook$Events" "byDay" "[LRateBook$Event;", .fieldLink RX1 30 "RateBook$Event" "kind" "I", .fieldLink RX1 21 "RateBook$Event" "day" "I"] ++ wsX20 ++ wsX00 ++ wsX10)
def wsX2_useOn : List Cond := .code yX2_useOn cX2_useOn 3 (some .int) :: ([.fieldLink RX2 33 "RateBook$House" "events" "LRateBook$Events;", .fieldLink RX2 41 "RateBook$Event" "value" "I", .methodLink RX2 37 yX1_latestOf, .instanceMethod yX1_latestOf, .selects RX1 yX1_latestOf yX1_latestOf, .initialized RX1, .code yX1_latestOf cX1_latestOf 6 (some (.object "RateBook$Event")), .fieldLink RX1 11 "RateBook$Events" "byDay" "[LRateBook$Event;", .fieldLink RX1 30 "RateBook$Event" "kind" "I", .fieldLink RX1 21 "RateBook$Event" "day" "I"] ++ wsX20 ++ wsX00 ++ wsX10)
def wsX3_init : List Cond := .code yX3_init cX3_init 1 none :: ([.methodLink RX3 3 objectInit, .instanceMethod objectInit, .code objectInit ⟨#[0xb1]⟩ 1 none, .classLink RX3 9 RX4, .fieldLink RX3 11 "RateBook$Lists" "byDay" "[LRateBook$RateList;"] ++ wsX30)
def wsX3_at : List Cond := .code yX3_at cX3_at 2 (some (.object "RateBook$RateList")) :: ([.fieldLink RX3 11 "RateBook$Lists" "byDay" "[LRateBook$RateList;"] ++ wsX30)
def wsX3_isFull : List Cond := .code yX3_isFull cX3_isFull 1 (some .boolean) :: ([.fieldLink RX3 17 "RateBook$Lists" "made" "I", .fieldLink RX3 11 "RateBook$Lists" "byDay" "[LRateBook$RateList;"] ++ wsX30)
def wsX3_reach : List Cond := .code yX3_reach cX3_reach 3 (some .boolean) :: ([.fieldLink RX3 17 "RateBook$Lists" "made" "I", .fieldLink RX3 25 "RateBook$RateList" "day" "I", .methodLink RX3 21 yX3_at, .instanceMethod yX3_at, .selects RX3 yX3_at yX3_at, .initialized RX3, .code yX3_at cX3_at 2 (some (.object "RateBook$RateList")), .fieldLink RX3 11 "RateBook$Lists" "byDay" "[LRateBook$RateList;"] ++ wsX30 ++ wsX40)
def wsX5_rentsOf : List Cond := .code yX5_rentsOf cX5_rentsOf 7 (some .int) :: ([.fieldLink RX5 11 "RateBook$Town" "houses" "[LRateBook$House;", .methodLink RX5 60 yX2_tells, .instanceMethod yX2_tells, .selects RX2 yX2_tells yX2_tells, .initialized RX2, .code yX2_tells cX2_tells 4 (some .boolean), .fieldLink RX2 27 "RateBook$House" "rent" "I", .fieldLink RX2 9 "RateBook$House" "number" "I", .fieldLink RX2 18 "RateBook$House" "kind" "I", .fieldLink RX2 21 "RateBook$House" "street" "I"] ++ wsX50 ++ wsX20)
def wsX5_lesserThan : List Cond := .code yX5_lesserThan cX5_lesserThan 8 (some .int) :: ([.fieldLink RX5 11 "RateBook$Town" "houses" "[LRateBook$House;", .methodLink RX5 60 yX2_tells, .instanceMethod yX2_tells, .selects RX2 yX2_tells yX2_tells, .initialized RX2, .code yX2_tells cX2_tells 4 (some .boolean), .fieldLink RX2 27 "RateBook$House" "rent" "I", .fieldLink RX2 9 "RateBook$House" "number" "I", .fieldLink RX2 18 "RateBook$House" "kind" "I", .fieldLink RX2 21 "RateBook$House" "street" "I", .methodLink RX5 68 yX2_hasLesserRent, .instanceMethod yX2_hasLesserRent, .selects RX2 yX2_hasLesserRent yX2_hasLesserRent, .code yX2_hasLesserRent cX2_hasLesserRent 6 (some .boolean), .fieldLink RX2 24 "RateBook$House" "size" "I"] ++ wsX50 ++ wsX20)
def wsX5_middleOf : List Cond := .code yX5_middleOf cX5_middleOf 7 (some (.object "RateBook$House")) :: ([.fieldLink RX5 11 "RateBook$Town" "houses" "[LRateBook$House;", .methodLink RX5 60 yX2_tells, .instanceMethod yX2_tells, .selects RX2 yX2_tells yX2_tells, .initialized RX2, .code yX2_tells cX2_tells 4 (some .boolean), .fieldLink RX2 27 "RateBook$House" "rent" "I", .fieldLink RX2 9 "RateBook$House" "number" "I", .fieldLink RX2 18 "RateBook$House" "kind" "I", .fieldLink RX2 21 "RateBook$House" "street" "I", .methodLink RX5 64 yX5_lesserThan, .instanceMethod yX5_lesserThan, .selects RX5 yX5_lesserThan yX5_lesserThan, .initialized RX5, .code yX5_lesserThan cX5_lesserThan 8 (some .int), .methodLink RX5 68 yX2_hasLesserRent, .instanceMethod yX2_hasLesserRent, .selects RX2 yX2_hasLesserRent yX2_hasLesserRent, .code yX2_hasLesserRent cX2_hasLesserRent 6 (some .boolean), .fieldLink RX2 24 "RateBook$House" "size" "I"] ++ wsX50 ++ wsX20)
def wsX6_init : List Cond := .code yX6_init cX6_init 5 none :: ([.methodLink RX6 1 objectInit, .instanceMethod objectInit, .code objectInit ⟨#[0xb1]⟩ 1 none, .fieldLink RX6 7 "RateBook$Unit" "above" "I", .fieldLink RX6 13 "RateBook$Unit" "below" "I", .fieldLink RX6 16 "RateBook$Unit" "rents" "I", .fieldLink RX6 19 "RateBook$Unit" "house" "I"] ++ wsX60)
def wsX5_unitOf_r1 : List Cond := [Cond.classLink RX5 51 RX6, Cond.instantiable RX6 4, Cond.initialized RX6, Cond.fieldLink RX5 40 "RateBook$House" "rent" "I", Cond.fieldLink RX5 56 "RateBook$House" "size" "I", Cond.fieldLink RX5 57 "RateBook$House" "number" "I", Cond.methodLink RX5 43 yX5_rentsOf, Cond.instanceMethod yX5_rentsOf, Cond.selects RX5 yX5_rentsOf yX5_rentsOf, Cond.initialized RX5, Cond.code yX5_rentsOf cX5_rentsOf 7 (some .int), Cond.fieldLink RX5 11 "RateBook$Town" "houses" "[LRateBook$House;", Cond.methodLink RX5 60 yX2_tells, Cond.instanceMethod yX2_tells, Cond.selects RX2 yX2_tells yX2_tells, Cond.initialized RX2, Cond.code yX2_tells cX2_tells 4 (some .boolean), Cond.fieldLink RX2 27 "RateBook$House" "rent" "I", Cond.fieldLink RX2 9 "RateBook$House" "number" "I", Cond.fieldLink RX2 18 "RateBook$House" "kind" "I", Cond.fieldLink RX2 21 "RateBook$House" "street" "I", Cond.methodLink RX5 47 yX5_middleOf, Cond.instanceMethod yX5_middleOf, Cond.selects RX5 yX5_middleOf yX5_middleOf]
def wsX5_unitOf_r2 : List Cond := [Cond.code yX5_middleOf cX5_middleOf 7 (some (.object "RateBook$House")), Cond.methodLink RX5 64 yX5_lesserThan, Cond.instanceMethod yX5_lesserThan, Cond.selects RX5 yX5_lesserThan yX5_lesserThan, Cond.code yX5_lesserThan cX5_lesserThan 8 (some .int), Cond.methodLink RX5 68 yX2_hasLesserRent, Cond.instanceMethod yX2_hasLesserRent, Cond.selects RX2 yX2_hasLesserRent yX2_hasLesserRent, Cond.code yX2_hasLesserRent cX2_hasLesserRent 6 (some .boolean), Cond.fieldLink RX2 24 "RateBook$House" "size" "I", Cond.methodLink RX5 53 yX6_init, Cond.instanceMethod yX6_init, Cond.code yX6_init cX6_init 5 none, Cond.methodLink RX6 1 objectInit, Cond.instanceMethod objectInit, Cond.code objectInit ⟨#[0xb1]⟩ 1 none, Cond.fieldLink RX6 7 "RateBook$Unit" "above" "I", Cond.fieldLink RX6 13 "RateBook$Unit" "below" "I", Cond.fieldLink RX6 16 "RateBook$Unit" "rents" "I", Cond.fieldLink RX6 19 "RateBook$Unit" "house" "I"]
def wsX5_unitOf : List Cond := .code yX5_unitOf cX5_unitOf 7 (some (.object "RateBook$Unit")) :: ((wsX5_unitOf_r1 ++ wsX5_unitOf_r2) ++ wsX60 ++ wsX20 ++ wsX50)
def wsX4_init_r1 : List Cond := [Cond.methodLink RX4 3 objectInit, Cond.instanceMethod objectInit, Cond.code objectInit ⟨#[0xb1]⟩ 1 none, Cond.fieldLink RX4 9 "RateBook$RateList" "day" "I", Cond.classLink RX4 15 RX6, Cond.fieldLink RX4 17 "RateBook$RateList" "units" "[LRateBook$Unit;", Cond.methodLink RX4 21 yX5_unitOf, Cond.instanceMethod yX5_unitOf, Cond.selects RX5 yX5_unitOf yX5_unitOf, Cond.initialized RX5, Cond.code yX5_unitOf cX5_unitOf 7 (some (.object "RateBook$Unit")), Cond.classLink RX5 51 RX6, Cond.instantiable RX6 4, Cond.initialized RX6, Cond.fieldLink RX5 40 "RateBook$House" "rent" "I", Cond.fieldLink RX5 56 "RateBook$House" "size" "I", Cond.fieldLink RX5 57 "RateBook$House" "number" "I", Cond.methodLink RX5 43 yX5_rentsOf, Cond.instanceMethod yX5_rentsOf, Cond.selects RX5 yX5_rentsOf yX5_rentsOf, Cond.code yX5_rentsOf cX5_rentsOf 7 (some .int), Cond.fieldLink RX5 11 "RateBook$Town" "houses" "[LRateBook$House;", Cond.methodLink RX5 60 yX2_tells, Cond.instanceMethod yX2_tells]
def wsX4_init_r2 : List Cond := [Cond.selects RX2 yX2_tells yX2_tells, Cond.initialized RX2, Cond.code yX2_tells cX2_tells 4 (some .boolean), Cond.fieldLink RX2 27 "RateBook$House" "rent" "I", Cond.fieldLink RX2 9 "RateBook$House" "number" "I", Cond.fieldLink RX2 18 "RateBook$House" "kind" "I", Cond.fieldLink RX2 21 "RateBook$House" "street" "I", Cond.methodLink RX5 47 yX5_middleOf, Cond.instanceMethod yX5_middleOf, Cond.selects RX5 yX5_middleOf yX5_middleOf, Cond.code yX5_middleOf cX5_middleOf 7 (some (.object "RateBook$House")), Cond.methodLink RX5 64 yX5_lesserThan, Cond.instanceMethod yX5_lesserThan, Cond.selects RX5 yX5_lesserThan yX5_lesserThan, Cond.code yX5_lesserThan cX5_lesserThan 8 (some .int), Cond.methodLink RX5 68 yX2_hasLesserRent, Cond.instanceMethod yX2_hasLesserRent, Cond.selects RX2 yX2_hasLesserRent yX2_hasLesserRent, Cond.code yX2_hasLesserRent cX2_hasLesserRent 6 (some .boolean), Cond.fieldLink RX2 24 "RateBook$House" "size" "I", Cond.methodLink RX5 53 yX6_init, Cond.instanceMethod yX6_init, Cond.code yX6_init cX6_init 5 none, Cond.methodLink RX6 1 objectInit]
def wsX4_init_r3 : List Cond := [Cond.fieldLink RX6 7 "RateBook$Unit" "above" "I", Cond.fieldLink RX6 13 "RateBook$Unit" "below" "I", Cond.fieldLink RX6 16 "RateBook$Unit" "rents" "I", Cond.fieldLink RX6 19 "RateBook$Unit" "house" "I"]
def wsX4_init : List Cond := .code yX4_init cX4_init 4 none :: ((wsX4_init_r1 ++ (wsX4_init_r2 ++ wsX4_init_r3)) ++ wsX40 ++ wsX60 ++ wsX20 ++ wsX50)
def wsX3_add_r1 : List Cond := [Cond.fieldLink RX3 17 "RateBook$Lists" "made" "I", Cond.fieldLink RX3 11 "RateBook$Lists" "byDay" "[LRateBook$RateList;", Cond.classLink RX3 9 RX4, Cond.instantiable RX4 2, Cond.initialized RX4, Cond.methodLink RX3 28 yX4_init, Cond.instanceMethod yX4_init, Cond.code yX4_init cX4_init 4 none, Cond.methodLink RX4 3 objectInit, Cond.instanceMethod objectInit, Cond.code objectInit ⟨#[0xb1]⟩ 1 none, Cond.fieldLink RX4 9 "RateBook$RateList" "day" "I", Cond.classLink RX4 15 RX6, Cond.fieldLink RX4 17 "RateBook$RateList" "units" "[LRateBook$Unit;", Cond.methodLink RX4 21 yX5_unitOf, Cond.instanceMethod yX5_unitOf, Cond.selects RX5 yX5_unitOf yX5_unitOf, Cond.initialized RX5, Cond.code yX5_unitOf cX5_unitOf 7 (some (.object "RateBook$Unit")), Cond.classLink RX5 51 RX6, Cond.instantiable RX6 4, Cond.initialized RX6, Cond.fieldLink RX5 40 "RateBook$House" "rent" "I", Cond.fieldLink RX5 56 "RateBook$House" "size" "I"]
def wsX3_add_r2 : List Cond := [Cond.fieldLink RX5 57 "RateBook$House" "number" "I", Cond.methodLink RX5 43 yX5_rentsOf, Cond.instanceMethod yX5_rentsOf, Cond.selects RX5 yX5_rentsOf yX5_rentsOf, Cond.code yX5_rentsOf cX5_rentsOf 7 (some .int), Cond.fieldLink RX5 11 "RateBook$Town" "houses" "[LRateBook$House;", Cond.methodLink RX5 60 yX2_tells, Cond.instanceMethod yX2_tells, Cond.selects RX2 yX2_tells yX2_tells, Cond.initialized RX2, Cond.code yX2_tells cX2_tells 4 (some .boolean), Cond.fieldLink RX2 27 "RateBook$House" "rent" "I", Cond.fieldLink RX2 9 "RateBook$House" "number" "I", Cond.fieldLink RX2 18 "RateBook$House" "kind" "I", Cond.fieldLink RX2 21 "RateBook$House" "street" "I", Cond.methodLink RX5 47 yX5_middleOf, Cond.instanceMethod yX5_middleOf, Cond.selects RX5 yX5_middleOf yX5_middleOf, Cond.code yX5_middleOf cX5_middleOf 7 (some (.object "RateBook$House")), Cond.methodLink RX5 64 yX5_lesserThan, Cond.instanceMethod yX5_lesserThan, Cond.selects RX5 yX5_lesserThan yX5_lesserThan, Cond.code yX5_lesserThan cX5_lesserThan 8 (some .int), Cond.methodLink RX5 68 yX2_hasLesserRent]
def wsX3_add_r3 : List Cond := [Cond.instanceMethod yX2_hasLesserRent, Cond.selects RX2 yX2_hasLesserRent yX2_hasLesserRent, Cond.code yX2_hasLesserRent cX2_hasLesserRent 6 (some .boolean), Cond.fieldLink RX2 24 "RateBook$House" "size" "I", Cond.methodLink RX5 53 yX6_init, Cond.instanceMethod yX6_init, Cond.code yX6_init cX6_init 5 none, Cond.methodLink RX6 1 objectInit, Cond.fieldLink RX6 7 "RateBook$Unit" "above" "I", Cond.fieldLink RX6 13 "RateBook$Unit" "below" "I", Cond.fieldLink RX6 16 "RateBook$Unit" "rents" "I", Cond.fieldLink RX6 19 "RateBook$Unit" "house" "I"]
def wsX3_add : List Cond := .code yX3_add cX3_add 4 (some .int) :: ((wsX3_add_r1 ++ (wsX3_add_r2 ++ wsX3_add_r3)) ++ wsX30 ++ wsX40 ++ wsX60 ++ wsX20 ++ wsX50)
def wsX3_standingOn : List Cond := .code yX3_standingOn cX3_standingOn 5 (some .int) :: ([.fieldLink RX3 11 "RateBook$Lists" "byDay" "[LRateBook$RateList;", .fieldLink RX3 25 "RateBook$RateList" "day" "I"] ++ wsX30 ++ wsX40)
def wsX3_nextChange : List Cond := .code yX3_nextChange cX3_nextChange 6 (some .int) :: ([.fieldLink RX3 11 "RateBook$Lists" "byDay" "[LRateBook$RateList;", .fieldLink RX3 25 "RateBook$RateList" "day" "I", .static yX8_sooner, .initialized RX8, .code yX8_sooner cX8_sooner 3 (some .int)] ++ wsX30 ++ wsX40)
def wsX4_unitFor : List Cond := .code yX4_unitFor cX4_unitFor 4 (some (.object "RateBook$Unit")) :: ([.fieldLink RX4 17 "RateBook$RateList" "units" "[LRateBook$Unit;"] ++ wsX40)
def wsX5_init : List Cond := .code yX5_init cX5_init 1 none :: ([.methodLink RX5 3 objectInit, .instanceMethod objectInit, .code objectInit ⟨#[0xb1]⟩ 1 none, .classLink RX5 9 RX2, .fieldLink RX5 11 "RateBook$Town" "houses" "[LRateBook$House;"] ++ wsX50)
def wsX5_at : List Cond := .code yX5_at cX5_at 2 (some (.object "RateBook$House")) :: ([.fieldLink RX5 11 "RateBook$Town" "houses" "[LRateBook$House;"] ++ wsX50)
def wsX5_add_r1 : List Cond := [Cond.fieldLink RX5 17 "RateBook$Town" "size" "I", Cond.fieldLink RX5 11 "RateBook$Town" "houses" "[LRateBook$House;", Cond.classLink RX5 9 RX2, Cond.instantiable RX2 7, Cond.initialized RX2, Cond.methodLink RX5 21 yX2_init, Cond.instanceMethod yX2_init, Cond.code yX2_init cX2_init 7 none, Cond.methodLink RX2 3 objectInit, Cond.instanceMethod objectInit, Cond.code objectInit ⟨#[0xb1]⟩ 1 none, Cond.fieldLink RX2 9 "RateBook$House" "number" "I", Cond.fieldLink RX2 15 "RateBook$House" "ward" "I", Cond.fieldLink RX2 18 "RateBook$House" "kind" "I", Cond.fieldLink RX2 21 "RateBook$House" "street" "I", Cond.fieldLink RX2 24 "RateBook$House" "size" "I", Cond.fieldLink RX2 27 "RateBook$House" "rent" "I", Cond.classLink RX2 30 RX1, Cond.instantiable RX1 2, Cond.initialized RX1, Cond.fieldLink RX2 33 "RateBook$House" "events" "LRateBook$Events;", Cond.methodLink RX2 32 yX1_init, Cond.instanceMethod yX1_init, Cond.code yX1_init cX1_init 1 none]
def wsX5_add_r2 : List Cond := [Cond.methodLink RX1 3 objectInit, Cond.classLink RX1 9 RX0, Cond.fieldLink RX1 11 "RateBook$Events" "byDay" "[LRateBook$Event;"]
def wsX5_add : List Cond := .code yX5_add cX5_add 7 (some .int) :: ((wsX5_add_r1 ++ wsX5_add_r2) ++ wsX50 ++ wsX20 ++ wsX10)
def wsX5_isIn : List Cond := .code yX5_isIn cX5_isIn 4 (some .boolean) :: ([.fieldLink RX5 28 "RateBook$House" "ward" "I", .methodLink RX5 24 yX5_at, .instanceMethod yX5_at, .selects RX5 yX5_at yX5_at, .initialized RX5, .code yX5_at cX5_at 2 (some (.object "RateBook$House")), .fieldLink RX5 11 "RateBook$Town" "houses" "[LRateBook$House;"] ++ wsX20 ++ wsX50)
def wsX5_eventsTold : List Cond := .code yX5_eventsTold cX5_eventsTold 4 (some .int) :: ([.fieldLink RX5 11 "RateBook$Town" "houses" "[LRateBook$House;", .fieldLink RX5 31 "RateBook$House" "events" "LRateBook$Events;"] ++ wsX50 ++ wsX20 ++ wsX10)
def wsX5_rentsKnown : List Cond := .code yX5_rentsKnown cX5_rentsKnown 4 (some .int) :: ([.fieldLink RX5 11 "RateBook$Town" "houses" "[LRateBook$House;", .fieldLink RX5 40 "RateBook$House" "rent" "I"] ++ wsX50 ++ wsX20)
def wsX6_times : List Cond := .code yX6_times cX6_times 2 (some .long) :: ([.fieldLink RX6 13 "RateBook$Unit" "below" "I", .fieldLink RX6 7 "RateBook$Unit" "above" "I"] ++ wsX60)
def wsX7_init : List Cond := .code yX7_init cX7_init 2 none :: ([.methodLink RX7 3 objectInit, .instanceMethod objectInit, .code objectInit ⟨#[0xb1]⟩ 1 none, .arrayClass .int, .fieldLink RX7 9 "RateBook$YearBook" "billed" "[I", .fieldLink RX7 15 "RateBook$YearBook" "payments" "[I"] ++ wsX70)
def wsX7_billedTo : List Cond := .code yX7_billedTo cX7_billedTo 2 (some .int) :: ([.fieldLink RX7 9 "RateBook$YearBook" "billed" "[I"] ++ wsX70)
def wsX7_paidBy : List Cond := .code yX7_paidBy cX7_paidBy 2 (some .int) :: ([.fieldLink RX7 15 "RateBook$YearBook" "payments" "[I"] ++ wsX70)
def wsX7_putBilled : List Cond := .code yX7_putBilled cX7_putBilled 3 none :: ([.fieldLink RX7 9 "RateBook$YearBook" "billed" "[I"] ++ wsX70)
def wsX7_putPaid : List Cond := .code yX7_putPaid cX7_putPaid 3 none :: ([.fieldLink RX7 15 "RateBook$YearBook" "payments" "[I"] ++ wsX70)
def wsX8_init_r1 : List Cond := [Cond.methodLink RX8 3 objectInit, Cond.instanceMethod objectInit, Cond.code objectInit ⟨#[0xb1]⟩ 1 none, Cond.classLink RX8 9 RX5, Cond.instantiable RX5 2, Cond.initialized RX5, Cond.fieldLink RX8 12 "RateBook" "town" "LRateBook$Town;", Cond.classLink RX8 16 RX3, Cond.instantiable RX3 2, Cond.initialized RX3, Cond.fieldLink RX8 19 "RateBook" "lists" "LRateBook$Lists;", Cond.arrayClass .long, Cond.fieldLink RX8 23 "RateBook" "yearSums" "[J", Cond.classLink RX8 27 RX7, Cond.fieldLink RX8 29 "RateBook" "books" "[LRateBook$YearBook;", Cond.instantiable RX7 5, Cond.initialized RX7, Cond.methodLink RX8 11 yX5_init, Cond.instanceMethod yX5_init, Cond.code yX5_init cX5_init 1 none, Cond.methodLink RX5 3 objectInit, Cond.classLink RX5 9 RX2, Cond.fieldLink RX5 11 "RateBook$Town" "houses" "[LRateBook$House;", Cond.methodLink RX8 18 yX3_init]
def wsX8_init_r2 : List Cond := [Cond.instanceMethod yX3_init, Cond.code yX3_init cX3_init 1 none, Cond.methodLink RX3 3 objectInit, Cond.classLink RX3 9 RX4, Cond.fieldLink RX3 11 "RateBook$Lists" "byDay" "[LRateBook$RateList;", Cond.methodLink RX8 33 yX7_init, Cond.instanceMethod yX7_init, Cond.code yX7_init cX7_init 2 none, Cond.methodLink RX7 3 objectInit, Cond.arrayClass .int, Cond.fieldLink RX7 9 "RateBook$YearBook" "billed" "[I", Cond.fieldLink RX7 15 "RateBook$YearBook" "payments" "[I"]
def wsX8_init : List Cond := .code yX8_init cX8_init 2 none :: ((wsX8_init_r1 ++ wsX8_init_r2) ++ wsX50 ++ wsX80 ++ wsX30 ++ wsX70)
def wsX8_isOf : List Cond := .code yX8_isOf cX8_isOf 2 (some .boolean) :: ([])
def wsX8_isWithin : List Cond := .code yX8_isWithin cX8_isWithin 3 (some .boolean) :: ([])
def wsX8_house_r1 : List Cond := [Cond.constant RX8 42 (100000), Cond.fieldLink RX8 12 "RateBook" "town" "LRateBook$Town;", Cond.methodLink RX8 34 yX8_isOf, Cond.static yX8_isOf, Cond.initialized RX8, Cond.code yX8_isOf cX8_isOf 2 (some .boolean), Cond.methodLink RX8 38 yX8_isWithin, Cond.static yX8_isWithin, Cond.code yX8_isWithin cX8_isWithin 3 (some .boolean), Cond.methodLink RX8 43 yX5_add, Cond.instanceMethod yX5_add, Cond.selects RX5 yX5_add yX5_add, Cond.initialized RX5, Cond.code yX5_add cX5_add 7 (some .int), Cond.fieldLink RX5 17 "RateBook$Town" "size" "I", Cond.fieldLink RX5 11 "RateBook$Town" "houses" "[LRateBook$House;", Cond.classLink RX5 9 RX2, Cond.instantiable RX2 7, Cond.initialized RX2, Cond.methodLink RX5 21 yX2_init, Cond.instanceMethod yX2_init, Cond.code yX2_init cX2_init 7 none, Cond.methodLink RX2 3 objectInit, Cond.instanceMethod objectInit]
def wsX8_house_r2 : List Cond := [Cond.code objectInit ⟨#[0xb1]⟩ 1 none, Cond.fieldLink RX2 9 "RateBook$House" "number" "I", Cond.fieldLink RX2 15 "RateBook$House" "ward" "I", Cond.fieldLink RX2 18 "RateBook$House" "kind" "I", Cond.fieldLink RX2 21 "RateBook$House" "street" "I", Cond.fieldLink RX2 24 "RateBook$House" "size" "I", Cond.fieldLink RX2 27 "RateBook$House" "rent" "I", Cond.classLink RX2 30 RX1, Cond.instantiable RX1 2, Cond.initialized RX1, Cond.fieldLink RX2 33 "RateBook$House" "events" "LRateBook$Events;", Cond.methodLink RX2 32 yX1_init, Cond.instanceMethod yX1_init, Cond.code yX1_init cX1_init 1 none, Cond.methodLink RX1 3 objectInit, Cond.classLink RX1 9 RX0, Cond.fieldLink RX1 11 "RateBook$Events" "byDay" "[LRateBook$Event;"]
def wsX8_house : List Cond := .code yX8_house cX8_house 6 (some .int) :: ((wsX8_house_r1 ++ wsX8_house_r2) ++ wsX80 ++ wsX50 ++ wsX20 ++ wsX10)
def wsX8_rent : List Cond := .code yX8_rent cX8_rent 5 (some .int) :: ([.fieldLink RX8 12 "RateBook" "town" "LRateBook$Town;", .constant RX8 42 (100000), .fieldLink RX8 51 "RateBook$House" "rent" "I", .methodLink RX8 47 yX5_at, .instanceMethod yX5_at, .selects RX5 yX5_at yX5_at, .initialized RX5, .code yX5_at cX5_at 2 (some (.object "RateBook$House")), .fieldLink RX5 11 "RateBook$Town" "houses" "[LRateBook$House;", .methodLink RX8 38 yX8_isWithin, .static yX8_isWithin, .initialized RX8, .code yX8_isWithin cX8_isWithin 3 (some .boolean)] ++ wsX80 ++ wsX20 ++ wsX50)
def wsX8_unit_r1 : List Cond := [Cond.fieldLink RX8 12 "RateBook" "town" "LRateBook$Town;", Cond.fieldLink RX8 61 "RateBook$Unit" "above" "I", Cond.fieldLink RX8 66 "RateBook$Unit" "below" "I", Cond.fieldLink RX8 69 "RateBook$Unit" "rents" "I", Cond.fieldLink RX8 72 "RateBook$Unit" "house" "I", Cond.methodLink RX8 34 yX8_isOf, Cond.static yX8_isOf, Cond.initialized RX8, Cond.code yX8_isOf cX8_isOf 2 (some .boolean), Cond.methodLink RX8 57 yX5_unitOf, Cond.instanceMethod yX5_unitOf, Cond.selects RX5 yX5_unitOf yX5_unitOf, Cond.initialized RX5, Cond.code yX5_unitOf cX5_unitOf 7 (some (.object "RateBook$Unit")), Cond.classLink RX5 51 RX6, Cond.instantiable RX6 4, Cond.initialized RX6, Cond.fieldLink RX5 40 "RateBook$House" "rent" "I", Cond.fieldLink RX5 56 "RateBook$House" "size" "I", Cond.fieldLink RX5 57 "RateBook$House" "number" "I", Cond.methodLink RX5 43 yX5_rentsOf, Cond.instanceMethod yX5_rentsOf, Cond.selects RX5 yX5_rentsOf yX5_rentsOf, Cond.code yX5_rentsOf cX5_rentsOf 7 (some .int)]
def wsX8_unit_r2 : List Cond := [Cond.fieldLink RX5 11 "RateBook$Town" "houses" "[LRateBook$House;", Cond.methodLink RX5 60 yX2_tells, Cond.instanceMethod yX2_tells, Cond.selects RX2 yX2_tells yX2_tells, Cond.initialized RX2, Cond.code yX2_tells cX2_tells 4 (some .boolean), Cond.fieldLink RX2 27 "RateBook$House" "rent" "I", Cond.fieldLink RX2 9 "RateBook$House" "number" "I", Cond.fieldLink RX2 18 "RateBook$House" "kind" "I", Cond.fieldLink RX2 21 "RateBook$House" "street" "I", Cond.methodLink RX5 47 yX5_middleOf, Cond.instanceMethod yX5_middleOf, Cond.selects RX5 yX5_middleOf yX5_middleOf, Cond.code yX5_middleOf cX5_middleOf 7 (some (.object "RateBook$House")), Cond.methodLink RX5 64 yX5_lesserThan, Cond.instanceMethod yX5_lesserThan, Cond.selects RX5 yX5_lesserThan yX5_lesserThan, Cond.code yX5_lesserThan cX5_lesserThan 8 (some .int), Cond.methodLink RX5 68 yX2_hasLesserRent, Cond.instanceMethod yX2_hasLesserRent, Cond.selects RX2 yX2_hasLesserRent yX2_hasLesserRent, Cond.code yX2_hasLesserRent cX2_hasLesserRent 6 (some .boolean), Cond.fieldLink RX2 24 "RateBook$House" "size" "I", Cond.methodLink RX5 53 yX6_init]
def wsX8_unit_r3 : List Cond := [Cond.instanceMethod yX6_init, Cond.code yX6_init cX6_init 5 none, Cond.methodLink RX6 1 objectInit, Cond.instanceMethod objectInit, Cond.code objectInit ⟨#[0xb1]⟩ 1 none, Cond.fieldLink RX6 7 "RateBook$Unit" "above" "I", Cond.fieldLink RX6 13 "RateBook$Unit" "below" "I", Cond.fieldLink RX6 16 "RateBook$Unit" "rents" "I", Cond.fieldLink RX6 19 "RateBook$Unit" "house" "I"]
def wsX8_unit : List Cond := .code yX8_unit cX8_unit 5 (some .int) :: ((wsX8_unit_r1 ++ (wsX8_unit_r2 ++ wsX8_unit_r3)) ++ wsX80 ++ wsX60 ++ wsX20 ++ wsX50)
def wsX8_tested_r1 : List Cond := [Cond.fieldLink RX8 12 "RateBook" "town" "LRateBook$Town;", Cond.fieldLink RX8 75 "RateBook$House" "kind" "I", Cond.fieldLink RX8 78 "RateBook$House" "street" "I", Cond.fieldLink RX8 81 "RateBook$House" "number" "I", Cond.fieldLink RX8 84 "RateBook$House" "size" "I", Cond.methodLink RX8 47 yX5_at, Cond.instanceMethod yX5_at, Cond.selects RX5 yX5_at yX5_at, Cond.initialized RX5, Cond.code yX5_at cX5_at 2 (some (.object "RateBook$House")), Cond.fieldLink RX5 11 "RateBook$Town" "houses" "[LRateBook$House;", Cond.methodLink RX8 57 yX5_unitOf, Cond.instanceMethod yX5_unitOf, Cond.selects RX5 yX5_unitOf yX5_unitOf, Cond.code yX5_unitOf cX5_unitOf 7 (some (.object "RateBook$Unit")), Cond.classLink RX5 51 RX6, Cond.instantiable RX6 4, Cond.initialized RX6, Cond.fieldLink RX5 40 "RateBook$House" "rent" "I", Cond.fieldLink RX5 56 "RateBook$House" "size" "I", Cond.fieldLink RX5 57 "RateBook$House" "number" "I", Cond.methodLink RX5 43 yX5_rentsOf, Cond.instanceMethod yX5_rentsOf, Cond.selects RX5 yX5_rentsOf yX5_rentsOf]
def wsX8_tested_r2 : List Cond := [Cond.code yX5_rentsOf cX5_rentsOf 7 (some .int), Cond.methodLink RX5 60 yX2_tells, Cond.instanceMethod yX2_tells, Cond.selects RX2 yX2_tells yX2_tells, Cond.initialized RX2, Cond.code yX2_tells cX2_tells 4 (some .boolean), Cond.fieldLink RX2 27 "RateBook$House" "rent" "I", Cond.fieldLink RX2 9 "RateBook$House" "number" "I", Cond.fieldLink RX2 18 "RateBook$House" "kind" "I", Cond.fieldLink RX2 21 "RateBook$House" "street" "I", Cond.methodLink RX5 47 yX5_middleOf, Cond.instanceMethod yX5_middleOf, Cond.selects RX5 yX5_middleOf yX5_middleOf, Cond.code yX5_middleOf cX5_middleOf 7 (some (.object "RateBook$House")), Cond.methodLink RX5 64 yX5_lesserThan, Cond.instanceMethod yX5_lesserThan, Cond.selects RX5 yX5_lesserThan yX5_lesserThan, Cond.code yX5_lesserThan cX5_lesserThan 8 (some .int), Cond.methodLink RX5 68 yX2_hasLesserRent, Cond.instanceMethod yX2_hasLesserRent, Cond.selects RX2 yX2_hasLesserRent yX2_hasLesserRent, Cond.code yX2_hasLesserRent cX2_hasLesserRent 6 (some .boolean), Cond.fieldLink RX2 24 "RateBook$House" "size" "I", Cond.methodLink RX5 53 yX6_init]
def wsX8_tested_r3 : List Cond := [Cond.instanceMethod yX6_init, Cond.code yX6_init cX6_init 5 none, Cond.methodLink RX6 1 objectInit, Cond.instanceMethod objectInit, Cond.code objectInit ⟨#[0xb1]⟩ 1 none, Cond.fieldLink RX6 7 "RateBook$Unit" "above" "I", Cond.fieldLink RX6 13 "RateBook$Unit" "below" "I", Cond.fieldLink RX6 16 "RateBook$Unit" "rents" "I", Cond.fieldLink RX6 19 "RateBook$Unit" "house" "I", Cond.methodLink RX8 87 yX6_times, Cond.instanceMethod yX6_times, Cond.selects RX6 yX6_times yX6_times, Cond.code yX6_times cX6_times 2 (some .long)]
def wsX8_tested : List Cond := .code yX8_tested cX8_tested 3 (some .int) :: ((wsX8_tested_r1 ++ (wsX8_tested_r2 ++ wsX8_tested_r3)) ++ wsX80 ++ wsX20 ++ wsX50 ++ wsX60)
def wsX8_list_r1 : List Cond := [Cond.fieldLink RX8 19 "RateBook" "lists" "LRateBook$Lists;", Cond.fieldLink RX8 12 "RateBook" "town" "LRateBook$Town;", Cond.methodLink RX8 34 yX8_isOf, Cond.static yX8_isOf, Cond.initialized RX8, Cond.code yX8_isOf cX8_isOf 2 (some .boolean), Cond.methodLink RX8 91 yX3_reach, Cond.instanceMethod yX3_reach, Cond.selects RX3 yX3_reach yX3_reach, Cond.initialized RX3, Cond.code yX3_reach cX3_reach 3 (some .boolean), Cond.fieldLink RX3 17 "RateBook$Lists" "made" "I", Cond.fieldLink RX3 25 "RateBook$RateList" "day" "I", Cond.methodLink RX3 21 yX3_at, Cond.instanceMethod yX3_at, Cond.selects RX3 yX3_at yX3_at, Cond.code yX3_at cX3_at 2 (some (.object "RateBook$RateList")), Cond.fieldLink RX3 11 "RateBook$Lists" "byDay" "[LRateBook$RateList;", Cond.methodLink RX8 95 yX3_isFull, Cond.instanceMethod yX3_isFull, Cond.selects RX3 yX3_isFull yX3_isFull, Cond.code yX3_isFull cX3_isFull 1 (some .boolean), Cond.methodLink RX8 99 yX3_add, Cond.instanceMethod yX3_add]
def wsX8_list_r2 : List Cond := [Cond.selects RX3 yX3_add yX3_add, Cond.code yX3_add cX3_add 4 (some .int), Cond.classLink RX3 9 RX4, Cond.instantiable RX4 2, Cond.initialized RX4, Cond.methodLink RX3 28 yX4_init, Cond.instanceMethod yX4_init, Cond.code yX4_init cX4_init 4 none, Cond.methodLink RX4 3 objectInit, Cond.instanceMethod objectInit, Cond.code objectInit ⟨#[0xb1]⟩ 1 none, Cond.fieldLink RX4 9 "RateBook$RateList" "day" "I", Cond.classLink RX4 15 RX6, Cond.fieldLink RX4 17 "RateBook$RateList" "units" "[LRateBook$Unit;", Cond.methodLink RX4 21 yX5_unitOf, Cond.instanceMethod yX5_unitOf, Cond.selects RX5 yX5_unitOf yX5_unitOf, Cond.initialized RX5, Cond.code yX5_unitOf cX5_unitOf 7 (some (.object "RateBook$Unit")), Cond.classLink RX5 51 RX6, Cond.instantiable RX6 4, Cond.initialized RX6, Cond.fieldLink RX5 40 "RateBook$House" "rent" "I", Cond.fieldLink RX5 56 "RateBook$House" "size" "I"]
def wsX8_list_r3 : List Cond := [Cond.fieldLink RX5 57 "RateBook$House" "number" "I", Cond.methodLink RX5 43 yX5_rentsOf, Cond.instanceMethod yX5_rentsOf, Cond.selects RX5 yX5_rentsOf yX5_rentsOf, Cond.code yX5_rentsOf cX5_rentsOf 7 (some .int), Cond.fieldLink RX5 11 "RateBook$Town" "houses" "[LRateBook$House;", Cond.methodLink RX5 60 yX2_tells, Cond.instanceMethod yX2_tells, Cond.selects RX2 yX2_tells yX2_tells, Cond.initialized RX2, Cond.code yX2_tells cX2_tells 4 (some .boolean), Cond.fieldLink RX2 27 "RateBook$House" "rent" "I", Cond.fieldLink RX2 9 "RateBook$House" "number" "I", Cond.fieldLink RX2 18 "RateBook$House" "kind" "I", Cond.fieldLink RX2 21 "RateBook$House" "street" "I", Cond.methodLink RX5 47 yX5_middleOf, Cond.instanceMethod yX5_middleOf, Cond.selects RX5 yX5_middleOf yX5_middleOf, Cond.code yX5_middleOf cX5_middleOf 7 (some (.object "RateBook$House")), Cond.methodLink RX5 64 yX5_lesserThan, Cond.instanceMethod yX5_lesserThan, Cond.selects RX5 yX5_lesserThan yX5_lesserThan, Cond.code yX5_lesserThan cX5_lesserThan 8 (some .int), Cond.methodLink RX5 68 yX2_hasLesserRent]
def wsX8_list_r4 : List Cond := [Cond.instanceMethod yX2_hasLesserRent, Cond.selects RX2 yX2_hasLesserRent yX2_hasLesserRent, Cond.code yX2_hasLesserRent cX2_hasLesserRent 6 (some .boolean), Cond.fieldLink RX2 24 "RateBook$House" "size" "I", Cond.methodLink RX5 53 yX6_init, Cond.instanceMethod yX6_init, Cond.code yX6_init cX6_init 5 none, Cond.methodLink RX6 1 objectInit, Cond.fieldLink RX6 7 "RateBook$Unit" "above" "I", Cond.fieldLink RX6 13 "RateBook$Unit" "below" "I", Cond.fieldLink RX6 16 "RateBook$Unit" "rents" "I", Cond.fieldLink RX6 19 "RateBook$Unit" "house" "I"]
def wsX8_list : List Cond := .code yX8_list cX8_list 2 (some .int) :: ((wsX8_list_r1 ++ (wsX8_list_r2 ++ (wsX8_list_r3 ++ wsX8_list_r4))) ++ wsX80 ++ wsX30 ++ wsX40 ++ wsX60 ++ wsX20 ++ wsX50)
def wsX8_isEvent : List Cond := .code yX8_isEvent cX8_isEvent 2 (some .boolean) :: ([.methodLink RX8 38 yX8_isWithin, .static yX8_isWithin, .initialized RX8, .code yX8_isWithin cX8_isWithin 3 (some .boolean)])
def wsX8_event_r1 : List Cond := [Cond.fieldLink RX8 12 "RateBook" "town" "LRateBook$Town;", Cond.fieldLink RX8 105 "RateBook$House" "events" "LRateBook$Events;", Cond.methodLink RX8 47 yX5_at, Cond.instanceMethod yX5_at, Cond.selects RX5 yX5_at yX5_at, Cond.initialized RX5, Cond.code yX5_at cX5_at 2 (some (.object "RateBook$House")), Cond.fieldLink RX5 11 "RateBook$Town" "houses" "[LRateBook$House;", Cond.methodLink RX8 34 yX8_isOf, Cond.static yX8_isOf, Cond.initialized RX8, Cond.code yX8_isOf cX8_isOf 2 (some .boolean), Cond.methodLink RX8 102 yX8_isEvent, Cond.static yX8_isEvent, Cond.code yX8_isEvent cX8_isEvent 2 (some .boolean), Cond.methodLink RX8 38 yX8_isWithin, Cond.static yX8_isWithin, Cond.code yX8_isWithin cX8_isWithin 3 (some .boolean), Cond.methodLink RX8 109 yX1_isFull, Cond.instanceMethod yX1_isFull, Cond.selects RX1 yX1_isFull yX1_isFull, Cond.initialized RX1, Cond.code yX1_isFull cX1_isFull 1 (some .boolean), Cond.fieldLink RX1 17 "RateBook$Events" "told" "I"]
def wsX8_event_r2 : List Cond := [Cond.fieldLink RX1 11 "RateBook$Events" "byDay" "[LRateBook$Event;", Cond.methodLink RX8 112 yX1_add, Cond.instanceMethod yX1_add, Cond.selects RX1 yX1_add yX1_add, Cond.code yX1_add cX1_add 6 none, Cond.fieldLink RX1 21 "RateBook$Event" "day" "I", Cond.classLink RX1 9 RX0, Cond.instantiable RX0 4, Cond.initialized RX0, Cond.methodLink RX1 24 yX0_init, Cond.instanceMethod yX0_init, Cond.code yX0_init cX0_init 5 none, Cond.methodLink RX0 1 objectInit, Cond.instanceMethod objectInit, Cond.code objectInit ⟨#[0xb1]⟩ 1 none, Cond.fieldLink RX0 7 "RateBook$Event" "number" "I", Cond.fieldLink RX0 13 "RateBook$Event" "day" "I", Cond.fieldLink RX0 16 "RateBook$Event" "kind" "I", Cond.fieldLink RX0 19 "RateBook$Event" "value" "I"]
def wsX8_event : List Cond := .code yX8_event cX8_event 6 (some .int) :: ((wsX8_event_r1 ++ wsX8_event_r2) ++ wsX80 ++ wsX20 ++ wsX10 ++ wsX50 ++ wsX00)
def wsX8_cutLike_r1 : List Cond := [Cond.fieldLink RX8 12 "RateBook" "town" "LRateBook$Town;", Cond.fieldLink RX8 105 "RateBook$House" "events" "LRateBook$Events;", Cond.methodLink RX8 47 yX5_at, Cond.instanceMethod yX5_at, Cond.selects RX5 yX5_at yX5_at, Cond.initialized RX5, Cond.code yX5_at cX5_at 2 (some (.object "RateBook$House")), Cond.fieldLink RX5 11 "RateBook$Town" "houses" "[LRateBook$House;", Cond.methodLink RX8 224 yX2_isLike, Cond.instanceMethod yX2_isLike, Cond.selects RX2 yX2_isLike yX2_isLike, Cond.initialized RX2, Cond.code yX2_isLike cX2_isLike 2 (some .boolean), Cond.fieldLink RX2 18 "RateBook$House" "kind" "I", Cond.fieldLink RX2 21 "RateBook$House" "street" "I", Cond.methodLink RX8 109 yX1_isFull, Cond.instanceMethod yX1_isFull, Cond.selects RX1 yX1_isFull yX1_isFull, Cond.initialized RX1, Cond.code yX1_isFull cX1_isFull 1 (some .boolean), Cond.fieldLink RX1 17 "RateBook$Events" "told" "I", Cond.fieldLink RX1 11 "RateBook$Events" "byDay" "[LRateBook$Event;", Cond.methodLink RX8 112 yX1_add, Cond.instanceMethod yX1_add]
def wsX8_cutLike_r2 : List Cond := [Cond.selects RX1 yX1_add yX1_add, Cond.code yX1_add cX1_add 6 none, Cond.fieldLink RX1 21 "RateBook$Event" "day" "I", Cond.classLink RX1 9 RX0, Cond.instantiable RX0 4, Cond.initialized RX0, Cond.methodLink RX1 24 yX0_init, Cond.instanceMethod yX0_init, Cond.code yX0_init cX0_init 5 none, Cond.methodLink RX0 1 objectInit, Cond.instanceMethod objectInit, Cond.code objectInit ⟨#[0xb1]⟩ 1 none, Cond.fieldLink RX0 7 "RateBook$Event" "number" "I", Cond.fieldLink RX0 13 "RateBook$Event" "day" "I", Cond.fieldLink RX0 16 "RateBook$Event" "kind" "I", Cond.fieldLink RX0 19 "RateBook$Event" "value" "I"]
def wsX8_cutLike : List Cond := .code yX8_cutLike cX8_cutLike 7 (some .int) :: ((wsX8_cutLike_r1 ++ wsX8_cutLike_r2) ++ wsX80 ++ wsX50 ++ wsX20 ++ wsX10 ++ wsX00)
def wsX8_cutOne_r1 : List Cond := [Cond.fieldLink RX8 105 "RateBook$House" "events" "LRateBook$Events;", Cond.methodLink RX8 109 yX1_isFull, Cond.instanceMethod yX1_isFull, Cond.selects RX1 yX1_isFull yX1_isFull, Cond.initialized RX1, Cond.code yX1_isFull cX1_isFull 1 (some .boolean), Cond.fieldLink RX1 17 "RateBook$Events" "told" "I", Cond.fieldLink RX1 11 "RateBook$Events" "byDay" "[LRateBook$Event;", Cond.methodLink RX8 112 yX1_add, Cond.instanceMethod yX1_add, Cond.selects RX1 yX1_add yX1_add, Cond.code yX1_add cX1_add 6 none, Cond.fieldLink RX1 21 "RateBook$Event" "day" "I", Cond.classLink RX1 9 RX0, Cond.instantiable RX0 4, Cond.initialized RX0, Cond.methodLink RX1 24 yX0_init, Cond.instanceMethod yX0_init, Cond.code yX0_init cX0_init 5 none, Cond.methodLink RX0 1 objectInit, Cond.instanceMethod objectInit, Cond.code objectInit ⟨#[0xb1]⟩ 1 none, Cond.fieldLink RX0 7 "RateBook$Event" "number" "I", Cond.fieldLink RX0 13 "RateBook$Event" "day" "I"]
def wsX8_cutOne_r2 : List Cond := [Cond.fieldLink RX0 16 "RateBook$Event" "kind" "I", Cond.fieldLink RX0 19 "RateBook$Event" "value" "I"]
def wsX8_cutOne : List Cond := .code yX8_cutOne cX8_cutOne 3 (some .int) :: ((wsX8_cutOne_r1 ++ wsX8_cutOne_r2) ++ wsX20 ++ wsX10 ++ wsX00)
def wsX8_appeal_r1 : List Cond := [Cond.fieldLink RX8 12 "RateBook" "town" "LRateBook$Town;", Cond.methodLink RX8 47 yX5_at, Cond.instanceMethod yX5_at, Cond.selects RX5 yX5_at yX5_at, Cond.initialized RX5, Cond.code yX5_at cX5_at 2 (some (.object "RateBook$House")), Cond.fieldLink RX5 11 "RateBook$Town" "houses" "[LRateBook$House;", Cond.methodLink RX8 34 yX8_isOf, Cond.static yX8_isOf, Cond.initialized RX8, Cond.code yX8_isOf cX8_isOf 2 (some .boolean), Cond.methodLink RX8 102 yX8_isEvent, Cond.static yX8_isEvent, Cond.code yX8_isEvent cX8_isEvent 2 (some .boolean), Cond.methodLink RX8 38 yX8_isWithin, Cond.static yX8_isWithin, Cond.code yX8_isWithin cX8_isWithin 3 (some .boolean), Cond.methodLink RX8 118 yX8_cutLike, Cond.instanceMethod yX8_cutLike, Cond.selects RX8 yX8_cutLike yX8_cutLike, Cond.code yX8_cutLike cX8_cutLike 7 (some .int), Cond.fieldLink RX8 105 "RateBook$House" "events" "LRateBook$Events;", Cond.methodLink RX8 224 yX2_isLike, Cond.instanceMethod yX2_isLike]
def wsX8_appeal_r2 : List Cond := [Cond.selects RX2 yX2_isLike yX2_isLike, Cond.initialized RX2, Cond.code yX2_isLike cX2_isLike 2 (some .boolean), Cond.fieldLink RX2 18 "RateBook$House" "kind" "I", Cond.fieldLink RX2 21 "RateBook$House" "street" "I", Cond.methodLink RX8 109 yX1_isFull, Cond.instanceMethod yX1_isFull, Cond.selects RX1 yX1_isFull yX1_isFull, Cond.initialized RX1, Cond.code yX1_isFull cX1_isFull 1 (some .boolean), Cond.fieldLink RX1 17 "RateBook$Events" "told" "I", Cond.fieldLink RX1 11 "RateBook$Events" "byDay" "[LRateBook$Event;", Cond.methodLink RX8 112 yX1_add, Cond.instanceMethod yX1_add, Cond.selects RX1 yX1_add yX1_add, Cond.code yX1_add cX1_add 6 none, Cond.fieldLink RX1 21 "RateBook$Event" "day" "I", Cond.classLink RX1 9 RX0, Cond.instantiable RX0 4, Cond.initialized RX0, Cond.methodLink RX1 24 yX0_init, Cond.instanceMethod yX0_init, Cond.code yX0_init cX0_init 5 none, Cond.methodLink RX0 1 objectInit]
def wsX8_appeal_r3 : List Cond := [Cond.instanceMethod objectInit, Cond.code objectInit ⟨#[0xb1]⟩ 1 none, Cond.fieldLink RX0 7 "RateBook$Event" "number" "I", Cond.fieldLink RX0 13 "RateBook$Event" "day" "I", Cond.fieldLink RX0 16 "RateBook$Event" "kind" "I", Cond.fieldLink RX0 19 "RateBook$Event" "value" "I", Cond.methodLink RX8 122 yX8_cutOne, Cond.static yX8_cutOne, Cond.code yX8_cutOne cX8_cutOne 3 (some .int)]
def wsX8_appeal : List Cond := .code yX8_appeal cX8_appeal 6 (some .int) :: ((wsX8_appeal_r1 ++ (wsX8_appeal_r2 ++ wsX8_appeal_r3)) ++ wsX80 ++ wsX50 ++ wsX20 ++ wsX10 ++ wsX00)
def wsX8_strike : List Cond := .code yX8_strike cX8_strike 3 (some .int) :: ([.fieldLink RX8 12 "RateBook" "town" "LRateBook$Town;", .fieldLink RX8 105 "RateBook$House" "events" "LRateBook$Events;", .methodLink RX8 47 yX5_at, .instanceMethod yX5_at, .selects RX5 yX5_at yX5_at, .initialized RX5, .code yX5_at cX5_at 2 (some (.object "RateBook$House")), .fieldLink RX5 11 "RateBook$Town" "houses" "[LRateBook$House;", .methodLink RX8 125 yX1_dropLatestTold, .instanceMethod yX1_dropLatestTold, .selects RX1 yX1_dropLatestTold yX1_dropLatestTold, .initialized RX1, .code yX1_dropLatestTold cX1_dropLatestTold 4 none, .fieldLink RX1 17 "RateBook$Events" "told" "I", .fieldLink RX1 11 "RateBook$Events" "byDay" "[LRateBook$Event;", .fieldLink RX1 27 "RateBook$Event" "number" "I"] ++ wsX80 ++ wsX20 ++ wsX10 ++ wsX50 ++ wsX00)
def wsX8_worthOn_r1 : List Cond := [Cond.fieldLink RX8 19 "RateBook" "lists" "LRateBook$Lists;", Cond.fieldLink RX8 75 "RateBook$House" "kind" "I", Cond.fieldLink RX8 78 "RateBook$House" "street" "I", Cond.fieldLink RX8 105 "RateBook$House" "events" "LRateBook$Events;", Cond.fieldLink RX8 237 "RateBook$RateList" "day" "I", Cond.methodLink RX8 145 yX3_standingOn, Cond.instanceMethod yX3_standingOn, Cond.selects RX3 yX3_standingOn yX3_standingOn, Cond.initialized RX3, Cond.code yX3_standingOn cX3_standingOn 5 (some .int), Cond.fieldLink RX3 11 "RateBook$Lists" "byDay" "[LRateBook$RateList;", Cond.fieldLink RX3 25 "RateBook$RateList" "day" "I", Cond.methodLink RX8 228 yX3_at, Cond.instanceMethod yX3_at, Cond.selects RX3 yX3_at yX3_at, Cond.code yX3_at cX3_at 2 (some (.object "RateBook$RateList")), Cond.methodLink RX8 231 yX4_unitFor, Cond.instanceMethod yX4_unitFor, Cond.selects RX4 yX4_unitFor yX4_unitFor, Cond.initialized RX4, Cond.code yX4_unitFor cX4_unitFor 4 (some (.object "RateBook$Unit")), Cond.fieldLink RX4 17 "RateBook$RateList" "units" "[LRateBook$Unit;", Cond.methodLink RX8 128 yX2_sizeOn, Cond.instanceMethod yX2_sizeOn]
def wsX8_worthOn_r2 : List Cond := [Cond.selects RX2 yX2_sizeOn yX2_sizeOn, Cond.initialized RX2, Cond.code yX2_sizeOn cX2_sizeOn 3 (some .int), Cond.fieldLink RX2 33 "RateBook$House" "events" "LRateBook$Events;", Cond.fieldLink RX2 24 "RateBook$House" "size" "I", Cond.fieldLink RX2 41 "RateBook$Event" "value" "I", Cond.methodLink RX2 37 yX1_latestOf, Cond.instanceMethod yX1_latestOf, Cond.selects RX1 yX1_latestOf yX1_latestOf, Cond.initialized RX1, Cond.code yX1_latestOf cX1_latestOf 6 (some (.object "RateBook$Event")), Cond.fieldLink RX1 11 "RateBook$Events" "byDay" "[LRateBook$Event;", Cond.fieldLink RX1 30 "RateBook$Event" "kind" "I", Cond.fieldLink RX1 21 "RateBook$Event" "day" "I", Cond.methodLink RX8 87 yX6_times, Cond.instanceMethod yX6_times, Cond.selects RX6 yX6_times yX6_times, Cond.initialized RX6, Cond.code yX6_times cX6_times 2 (some .long), Cond.fieldLink RX6 13 "RateBook$Unit" "below" "I", Cond.fieldLink RX6 7 "RateBook$Unit" "above" "I", Cond.methodLink RX8 240 yX1_cutDown, Cond.instanceMethod yX1_cutDown, Cond.selects RX1 yX1_cutDown yX1_cutDown]
def wsX8_worthOn_r3 : List Cond := [Cond.code yX1_cutDown cX1_cutDown 9 (some .long), Cond.fieldLink RX1 33 "RateBook$Event" "value" "I", Cond.constantLong RX1 36 (1000)]
def wsX8_worthOn : List Cond := .code yX8_worthOn cX8_worthOn 5 (some .int) :: ((wsX8_worthOn_r1 ++ (wsX8_worthOn_r2 ++ wsX8_worthOn_r3)) ++ wsX80 ++ wsX20 ++ wsX40 ++ wsX30 ++ wsX00 ++ wsX10 ++ wsX60)
def wsX8_countedOn_r1 : List Cond := [Cond.fieldLink RX8 105 "RateBook$House" "events" "LRateBook$Events;", Cond.fieldLink RX8 248 "RateBook$Event" "value" "I", Cond.fieldLink RX8 253 "RateBook$Event" "day" "I", Cond.methodLink RX8 135 yX8_worthOn, Cond.instanceMethod yX8_worthOn, Cond.selects RX8 yX8_worthOn yX8_worthOn, Cond.initialized RX8, Cond.code yX8_worthOn cX8_worthOn 5 (some .int), Cond.fieldLink RX8 19 "RateBook" "lists" "LRateBook$Lists;", Cond.fieldLink RX8 75 "RateBook$House" "kind" "I", Cond.fieldLink RX8 78 "RateBook$House" "street" "I", Cond.fieldLink RX8 237 "RateBook$RateList" "day" "I", Cond.methodLink RX8 145 yX3_standingOn, Cond.instanceMethod yX3_standingOn, Cond.selects RX3 yX3_standingOn yX3_standingOn, Cond.initialized RX3, Cond.code yX3_standingOn cX3_standingOn 5 (some .int), Cond.fieldLink RX3 11 "RateBook$Lists" "byDay" "[LRateBook$RateList;", Cond.fieldLink RX3 25 "RateBook$RateList" "day" "I", Cond.methodLink RX8 228 yX3_at, Cond.instanceMethod yX3_at, Cond.selects RX3 yX3_at yX3_at, Cond.code yX3_at cX3_at 2 (some (.object "RateBook$RateList")), Cond.methodLink RX8 231 yX4_unitFor]
def wsX8_countedOn_r2 : List Cond := [Cond.instanceMethod yX4_unitFor, Cond.selects RX4 yX4_unitFor yX4_unitFor, Cond.initialized RX4, Cond.code yX4_unitFor cX4_unitFor 4 (some (.object "RateBook$Unit")), Cond.fieldLink RX4 17 "RateBook$RateList" "units" "[LRateBook$Unit;", Cond.methodLink RX8 128 yX2_sizeOn, Cond.instanceMethod yX2_sizeOn, Cond.selects RX2 yX2_sizeOn yX2_sizeOn, Cond.initialized RX2, Cond.code yX2_sizeOn cX2_sizeOn 3 (some .int), Cond.fieldLink RX2 33 "RateBook$House" "events" "LRateBook$Events;", Cond.fieldLink RX2 24 "RateBook$House" "size" "I", Cond.fieldLink RX2 41 "RateBook$Event" "value" "I", Cond.methodLink RX2 37 yX1_latestOf, Cond.instanceMethod yX1_latestOf, Cond.selects RX1 yX1_latestOf yX1_latestOf, Cond.initialized RX1, Cond.code yX1_latestOf cX1_latestOf 6 (some (.object "RateBook$Event")), Cond.fieldLink RX1 11 "RateBook$Events" "byDay" "[LRateBook$Event;", Cond.fieldLink RX1 30 "RateBook$Event" "kind" "I", Cond.fieldLink RX1 21 "RateBook$Event" "day" "I", Cond.methodLink RX8 87 yX6_times, Cond.instanceMethod yX6_times, Cond.selects RX6 yX6_times yX6_times]
def wsX8_countedOn_r3 : List Cond := [Cond.initialized RX6, Cond.code yX6_times cX6_times 2 (some .long), Cond.fieldLink RX6 13 "RateBook$Unit" "below" "I", Cond.fieldLink RX6 7 "RateBook$Unit" "above" "I", Cond.methodLink RX8 240 yX1_cutDown, Cond.instanceMethod yX1_cutDown, Cond.selects RX1 yX1_cutDown yX1_cutDown, Cond.code yX1_cutDown cX1_cutDown 9 (some .long), Cond.fieldLink RX1 33 "RateBook$Event" "value" "I", Cond.constantLong RX1 36 (1000), Cond.methodLink RX8 244 yX1_latestOf]
def wsX8_countedOn : List Cond := .code yX8_countedOn cX8_countedOn 5 (some .int) :: ((wsX8_countedOn_r1 ++ (wsX8_countedOn_r2 ++ wsX8_countedOn_r3)) ++ wsX20 ++ wsX00 ++ wsX80 ++ wsX40 ++ wsX30 ++ wsX10 ++ wsX60)
def wsX8_relieved : List Cond := .code yX8_relieved cX8_relieved 1 (some .int) :: ([])
def wsX8_on_r1 : List Cond := [Cond.fieldLink RX8 12 "RateBook" "town" "LRateBook$Town;", Cond.fieldLink RX8 19 "RateBook" "lists" "LRateBook$Lists;", Cond.methodLink RX8 47 yX5_at, Cond.instanceMethod yX5_at, Cond.selects RX5 yX5_at yX5_at, Cond.initialized RX5, Cond.code yX5_at cX5_at 2 (some (.object "RateBook$House")), Cond.fieldLink RX5 11 "RateBook$Town" "houses" "[LRateBook$House;", Cond.methodLink RX8 34 yX8_isOf, Cond.static yX8_isOf, Cond.initialized RX8, Cond.code yX8_isOf cX8_isOf 2 (some .boolean), Cond.methodLink RX8 128 yX2_sizeOn, Cond.instanceMethod yX2_sizeOn, Cond.selects RX2 yX2_sizeOn yX2_sizeOn, Cond.initialized RX2, Cond.code yX2_sizeOn cX2_sizeOn 3 (some .int), Cond.fieldLink RX2 33 "RateBook$House" "events" "LRateBook$Events;", Cond.fieldLink RX2 24 "RateBook$House" "size" "I", Cond.fieldLink RX2 41 "RateBook$Event" "value" "I", Cond.methodLink RX2 37 yX1_latestOf, Cond.instanceMethod yX1_latestOf, Cond.selects RX1 yX1_latestOf yX1_latestOf, Cond.initialized RX1]
def wsX8_on_r2 : List Cond := [Cond.code yX1_latestOf cX1_latestOf 6 (some (.object "RateBook$Event")), Cond.fieldLink RX1 11 "RateBook$Events" "byDay" "[LRateBook$Event;", Cond.fieldLink RX1 30 "RateBook$Event" "kind" "I", Cond.fieldLink RX1 21 "RateBook$Event" "day" "I", Cond.methodLink RX8 132 yX2_useOn, Cond.instanceMethod yX2_useOn, Cond.selects RX2 yX2_useOn yX2_useOn, Cond.code yX2_useOn cX2_useOn 3 (some .int), Cond.methodLink RX8 135 yX8_worthOn, Cond.instanceMethod yX8_worthOn, Cond.selects RX8 yX8_worthOn yX8_worthOn, Cond.code yX8_worthOn cX8_worthOn 5 (some .int), Cond.fieldLink RX8 75 "RateBook$House" "kind" "I", Cond.fieldLink RX8 78 "RateBook$House" "street" "I", Cond.fieldLink RX8 105 "RateBook$House" "events" "LRateBook$Events;", Cond.fieldLink RX8 237 "RateBook$RateList" "day" "I", Cond.methodLink RX8 145 yX3_standingOn, Cond.instanceMethod yX3_standingOn, Cond.selects RX3 yX3_standingOn yX3_standingOn, Cond.initialized RX3, Cond.code yX3_standingOn cX3_standingOn 5 (some .int), Cond.fieldLink RX3 11 "RateBook$Lists" "byDay" "[LRateBook$RateList;", Cond.fieldLink RX3 25 "RateBook$RateList" "day" "I", Cond.methodLink RX8 228 yX3_at]
def wsX8_on_r3 : List Cond := [Cond.instanceMethod yX3_at, Cond.selects RX3 yX3_at yX3_at, Cond.code yX3_at cX3_at 2 (some (.object "RateBook$RateList")), Cond.methodLink RX8 231 yX4_unitFor, Cond.instanceMethod yX4_unitFor, Cond.selects RX4 yX4_unitFor yX4_unitFor, Cond.initialized RX4, Cond.code yX4_unitFor cX4_unitFor 4 (some (.object "RateBook$Unit")), Cond.fieldLink RX4 17 "RateBook$RateList" "units" "[LRateBook$Unit;", Cond.methodLink RX8 87 yX6_times, Cond.instanceMethod yX6_times, Cond.selects RX6 yX6_times yX6_times, Cond.initialized RX6, Cond.code yX6_times cX6_times 2 (some .long), Cond.fieldLink RX6 13 "RateBook$Unit" "below" "I", Cond.fieldLink RX6 7 "RateBook$Unit" "above" "I", Cond.methodLink RX8 240 yX1_cutDown, Cond.instanceMethod yX1_cutDown, Cond.selects RX1 yX1_cutDown yX1_cutDown, Cond.code yX1_cutDown cX1_cutDown 9 (some .long), Cond.fieldLink RX1 33 "RateBook$Event" "value" "I", Cond.constantLong RX1 36 (1000), Cond.methodLink RX8 139 yX8_countedOn, Cond.instanceMethod yX8_countedOn]
def wsX8_on_r4 : List Cond := [Cond.selects RX8 yX8_countedOn yX8_countedOn, Cond.code yX8_countedOn cX8_countedOn 5 (some .int), Cond.fieldLink RX8 248 "RateBook$Event" "value" "I", Cond.fieldLink RX8 253 "RateBook$Event" "day" "I", Cond.methodLink RX8 244 yX1_latestOf, Cond.methodLink RX8 142 yX8_relieved, Cond.static yX8_relieved, Cond.code yX8_relieved cX8_relieved 1 (some .int)]
def wsX8_on : List Cond := .code yX8_on cX8_on 5 (some .int) :: ((wsX8_on_r1 ++ (wsX8_on_r2 ++ (wsX8_on_r3 ++ wsX8_on_r4))) ++ wsX80 ++ wsX50 ++ wsX20 ++ wsX00 ++ wsX10 ++ wsX40 ++ wsX30 ++ wsX60)
def wsX8_sumOfYear_r1 : List Cond := [Cond.fieldLink RX8 19 "RateBook" "lists" "LRateBook$Lists;", Cond.fieldLink RX8 105 "RateBook$House" "events" "LRateBook$Events;", Cond.methodLink RX8 254 yX1_nextChange, Cond.instanceMethod yX1_nextChange, Cond.selects RX1 yX1_nextChange yX1_nextChange, Cond.initialized RX1, Cond.code yX1_nextChange cX1_nextChange 6 (some .int), Cond.fieldLink RX1 11 "RateBook$Events" "byDay" "[LRateBook$Event;", Cond.fieldLink RX1 21 "RateBook$Event" "day" "I", Cond.static yX8_sooner, Cond.initialized RX8, Cond.code yX8_sooner cX8_sooner 3 (some .int), Cond.methodLink RX8 257 yX3_nextChange, Cond.instanceMethod yX3_nextChange, Cond.selects RX3 yX3_nextChange yX3_nextChange, Cond.initialized RX3, Cond.code yX3_nextChange cX3_nextChange 6 (some .int), Cond.fieldLink RX3 11 "RateBook$Lists" "byDay" "[LRateBook$RateList;", Cond.fieldLink RX3 25 "RateBook$RateList" "day" "I", Cond.methodLink RX8 139 yX8_countedOn, Cond.instanceMethod yX8_countedOn, Cond.selects RX8 yX8_countedOn yX8_countedOn, Cond.code yX8_countedOn cX8_countedOn 5 (some .int), Cond.fieldLink RX8 248 "RateBook$Event" "value" "I"]
def wsX8_sumOfYear_r2 : List Cond := [Cond.fieldLink RX8 253 "RateBook$Event" "day" "I", Cond.methodLink RX8 135 yX8_worthOn, Cond.instanceMethod yX8_worthOn, Cond.selects RX8 yX8_worthOn yX8_worthOn, Cond.code yX8_worthOn cX8_worthOn 5 (some .int), Cond.fieldLink RX8 75 "RateBook$House" "kind" "I", Cond.fieldLink RX8 78 "RateBook$House" "street" "I", Cond.fieldLink RX8 237 "RateBook$RateList" "day" "I", Cond.methodLink RX8 145 yX3_standingOn, Cond.instanceMethod yX3_standingOn, Cond.selects RX3 yX3_standingOn yX3_standingOn, Cond.code yX3_standingOn cX3_standingOn 5 (some .int), Cond.methodLink RX8 228 yX3_at, Cond.instanceMethod yX3_at, Cond.selects RX3 yX3_at yX3_at, Cond.code yX3_at cX3_at 2 (some (.object "RateBook$RateList")), Cond.methodLink RX8 231 yX4_unitFor, Cond.instanceMethod yX4_unitFor, Cond.selects RX4 yX4_unitFor yX4_unitFor, Cond.initialized RX4, Cond.code yX4_unitFor cX4_unitFor 4 (some (.object "RateBook$Unit")), Cond.fieldLink RX4 17 "RateBook$RateList" "units" "[LRateBook$Unit;", Cond.methodLink RX8 128 yX2_sizeOn, Cond.instanceMethod yX2_sizeOn]
def wsX8_sumOfYear_r3 : List Cond := [Cond.selects RX2 yX2_sizeOn yX2_sizeOn, Cond.initialized RX2, Cond.code yX2_sizeOn cX2_sizeOn 3 (some .int), Cond.fieldLink RX2 33 "RateBook$House" "events" "LRateBook$Events;", Cond.fieldLink RX2 24 "RateBook$House" "size" "I", Cond.fieldLink RX2 41 "RateBook$Event" "value" "I", Cond.methodLink RX2 37 yX1_latestOf, Cond.instanceMethod yX1_latestOf, Cond.selects RX1 yX1_latestOf yX1_latestOf, Cond.code yX1_latestOf cX1_latestOf 6 (some (.object "RateBook$Event")), Cond.fieldLink RX1 30 "RateBook$Event" "kind" "I", Cond.methodLink RX8 87 yX6_times, Cond.instanceMethod yX6_times, Cond.selects RX6 yX6_times yX6_times, Cond.initialized RX6, Cond.code yX6_times cX6_times 2 (some .long), Cond.fieldLink RX6 13 "RateBook$Unit" "below" "I", Cond.fieldLink RX6 7 "RateBook$Unit" "above" "I", Cond.methodLink RX8 240 yX1_cutDown, Cond.instanceMethod yX1_cutDown, Cond.selects RX1 yX1_cutDown yX1_cutDown, Cond.code yX1_cutDown cX1_cutDown 9 (some .long), Cond.fieldLink RX1 33 "RateBook$Event" "value" "I", Cond.constantLong RX1 36 (1000)]
def wsX8_sumOfYear_r4 : List Cond := [Cond.methodLink RX8 244 yX1_latestOf, Cond.methodLink RX8 142 yX8_relieved, Cond.static yX8_relieved, Cond.code yX8_relieved cX8_relieved 1 (some .int)]
def wsX8_sumOfYear : List Cond := .code yX8_sumOfYear cX8_sumOfYear 9 (some .long) :: ((wsX8_sumOfYear_r1 ++ (wsX8_sumOfYear_r2 ++ (wsX8_sumOfYear_r3 ++ wsX8_sumOfYear_r4))) ++ wsX80 ++ wsX20 ++ wsX10 ++ wsX00 ++ wsX30 ++ wsX40 ++ wsX60)
def wsX8_year_r1 : List Cond := [Cond.fieldLink RX8 12 "RateBook" "town" "LRateBook$Town;", Cond.constantLong RX8 148 (-1), Cond.methodLink RX8 47 yX5_at, Cond.instanceMethod yX5_at, Cond.selects RX5 yX5_at yX5_at, Cond.initialized RX5, Cond.code yX5_at cX5_at 2 (some (.object "RateBook$House")), Cond.fieldLink RX5 11 "RateBook$Town" "houses" "[LRateBook$House;", Cond.methodLink RX8 34 yX8_isOf, Cond.static yX8_isOf, Cond.initialized RX8, Cond.code yX8_isOf cX8_isOf 2 (some .boolean), Cond.methodLink RX8 150 yX8_sumOfYear, Cond.instanceMethod yX8_sumOfYear, Cond.selects RX8 yX8_sumOfYear yX8_sumOfYear, Cond.code yX8_sumOfYear cX8_sumOfYear 9 (some .long), Cond.fieldLink RX8 19 "RateBook" "lists" "LRateBook$Lists;", Cond.fieldLink RX8 105 "RateBook$House" "events" "LRateBook$Events;", Cond.methodLink RX8 254 yX1_nextChange, Cond.instanceMethod yX1_nextChange, Cond.selects RX1 yX1_nextChange yX1_nextChange, Cond.initialized RX1, Cond.code yX1_nextChange cX1_nextChange 6 (some .int), Cond.fieldLink RX1 11 "RateBook$Events" "byDay" "[LRateBook$Event;"]
def wsX8_year_r2 : List Cond := [Cond.fieldLink RX1 21 "RateBook$Event" "day" "I", Cond.static yX8_sooner, Cond.code yX8_sooner cX8_sooner 3 (some .int), Cond.methodLink RX8 257 yX3_nextChange, Cond.instanceMethod yX3_nextChange, Cond.selects RX3 yX3_nextChange yX3_nextChange, Cond.initialized RX3, Cond.code yX3_nextChange cX3_nextChange 6 (some .int), Cond.fieldLink RX3 11 "RateBook$Lists" "byDay" "[LRateBook$RateList;", Cond.fieldLink RX3 25 "RateBook$RateList" "day" "I", Cond.methodLink RX8 139 yX8_countedOn, Cond.instanceMethod yX8_countedOn, Cond.selects RX8 yX8_countedOn yX8_countedOn, Cond.code yX8_countedOn cX8_countedOn 5 (some .int), Cond.fieldLink RX8 248 "RateBook$Event" "value" "I", Cond.fieldLink RX8 253 "RateBook$Event" "day" "I", Cond.methodLink RX8 135 yX8_worthOn, Cond.instanceMethod yX8_worthOn, Cond.selects RX8 yX8_worthOn yX8_worthOn, Cond.code yX8_worthOn cX8_worthOn 5 (some .int), Cond.fieldLink RX8 75 "RateBook$House" "kind" "I", Cond.fieldLink RX8 78 "RateBook$House" "street" "I", Cond.fieldLink RX8 237 "RateBook$RateList" "day" "I", Cond.methodLink RX8 145 yX3_standingOn]
def wsX8_year_r3 : List Cond := [Cond.instanceMethod yX3_standingOn, Cond.selects RX3 yX3_standingOn yX3_standingOn, Cond.code yX3_standingOn cX3_standingOn 5 (some .int), Cond.methodLink RX8 228 yX3_at, Cond.instanceMethod yX3_at, Cond.selects RX3 yX3_at yX3_at, Cond.code yX3_at cX3_at 2 (some (.object "RateBook$RateList")), Cond.methodLink RX8 231 yX4_unitFor, Cond.instanceMethod yX4_unitFor, Cond.selects RX4 yX4_unitFor yX4_unitFor, Cond.initialized RX4, Cond.code yX4_unitFor cX4_unitFor 4 (some (.object "RateBook$Unit")), Cond.fieldLink RX4 17 "RateBook$RateList" "units" "[LRateBook$Unit;", Cond.methodLink RX8 128 yX2_sizeOn, Cond.instanceMethod yX2_sizeOn, Cond.selects RX2 yX2_sizeOn yX2_sizeOn, Cond.initialized RX2, Cond.code yX2_sizeOn cX2_sizeOn 3 (some .int), Cond.fieldLink RX2 33 "RateBook$House" "events" "LRateBook$Events;", Cond.fieldLink RX2 24 "RateBook$House" "size" "I", Cond.fieldLink RX2 41 "RateBook$Event" "value" "I", Cond.methodLink RX2 37 yX1_latestOf, Cond.instanceMethod yX1_latestOf, Cond.selects RX1 yX1_latestOf yX1_latestOf]
def wsX8_year_r4 : List Cond := [Cond.code yX1_latestOf cX1_latestOf 6 (some (.object "RateBook$Event")), Cond.fieldLink RX1 30 "RateBook$Event" "kind" "I", Cond.methodLink RX8 87 yX6_times, Cond.instanceMethod yX6_times, Cond.selects RX6 yX6_times yX6_times, Cond.initialized RX6, Cond.code yX6_times cX6_times 2 (some .long), Cond.fieldLink RX6 13 "RateBook$Unit" "below" "I", Cond.fieldLink RX6 7 "RateBook$Unit" "above" "I", Cond.methodLink RX8 240 yX1_cutDown, Cond.instanceMethod yX1_cutDown, Cond.selects RX1 yX1_cutDown yX1_cutDown, Cond.code yX1_cutDown cX1_cutDown 9 (some .long), Cond.fieldLink RX1 33 "RateBook$Event" "value" "I", Cond.constantLong RX1 36 (1000), Cond.methodLink RX8 244 yX1_latestOf, Cond.methodLink RX8 142 yX8_relieved, Cond.static yX8_relieved, Cond.code yX8_relieved cX8_relieved 1 (some .int)]
def wsX8_year : List Cond := .code yX8_year cX8_year 4 (some .long) :: ((wsX8_year_r1 ++ (wsX8_year_r2 ++ (wsX8_year_r3 ++ wsX8_year_r4))) ++ wsX80 ++ wsX50 ++ wsX20 ++ wsX10 ++ wsX00 ++ wsX30 ++ wsX40 ++ wsX60)
def wsX8_billFor : List Cond := .code yX8_billFor cX8_billFor 3 (some .int) :: ([.constantLong RX8 258 (365000)])
def wsX8_bill_r1 : List Cond := [Cond.fieldLink RX8 12 "RateBook" "town" "LRateBook$Town;", Cond.methodLink RX8 47 yX5_at, Cond.instanceMethod yX5_at, Cond.selects RX5 yX5_at yX5_at, Cond.initialized RX5, Cond.code yX5_at cX5_at 2 (some (.object "RateBook$House")), Cond.fieldLink RX5 11 "RateBook$Town" "houses" "[LRateBook$House;", Cond.methodLink RX8 34 yX8_isOf, Cond.static yX8_isOf, Cond.initialized RX8, Cond.code yX8_isOf cX8_isOf 2 (some .boolean), Cond.methodLink RX8 38 yX8_isWithin, Cond.static yX8_isWithin, Cond.code yX8_isWithin cX8_isWithin 3 (some .boolean), Cond.methodLink RX8 150 yX8_sumOfYear, Cond.instanceMethod yX8_sumOfYear, Cond.selects RX8 yX8_sumOfYear yX8_sumOfYear, Cond.code yX8_sumOfYear cX8_sumOfYear 9 (some .long), Cond.fieldLink RX8 19 "RateBook" "lists" "LRateBook$Lists;", Cond.fieldLink RX8 105 "RateBook$House" "events" "LRateBook$Events;", Cond.methodLink RX8 254 yX1_nextChange, Cond.instanceMethod yX1_nextChange, Cond.selects RX1 yX1_nextChange yX1_nextChange, Cond.initialized RX1]
def wsX8_bill_r2 : List Cond := [Cond.code yX1_nextChange cX1_nextChange 6 (some .int), Cond.fieldLink RX1 11 "RateBook$Events" "byDay" "[LRateBook$Event;", Cond.fieldLink RX1 21 "RateBook$Event" "day" "I", Cond.static yX8_sooner, Cond.code yX8_sooner cX8_sooner 3 (some .int), Cond.methodLink RX8 257 yX3_nextChange, Cond.instanceMethod yX3_nextChange, Cond.selects RX3 yX3_nextChange yX3_nextChange, Cond.initialized RX3, Cond.code yX3_nextChange cX3_nextChange 6 (some .int), Cond.fieldLink RX3 11 "RateBook$Lists" "byDay" "[LRateBook$RateList;", Cond.fieldLink RX3 25 "RateBook$RateList" "day" "I", Cond.methodLink RX8 139 yX8_countedOn, Cond.instanceMethod yX8_countedOn, Cond.selects RX8 yX8_countedOn yX8_countedOn, Cond.code yX8_countedOn cX8_countedOn 5 (some .int), Cond.fieldLink RX8 248 "RateBook$Event" "value" "I", Cond.fieldLink RX8 253 "RateBook$Event" "day" "I", Cond.methodLink RX8 135 yX8_worthOn, Cond.instanceMethod yX8_worthOn, Cond.selects RX8 yX8_worthOn yX8_worthOn, Cond.code yX8_worthOn cX8_worthOn 5 (some .int), Cond.fieldLink RX8 75 "RateBook$House" "kind" "I", Cond.fieldLink RX8 78 "RateBook$House" "street" "I"]
def wsX8_bill_r3 : List Cond := [Cond.fieldLink RX8 237 "RateBook$RateList" "day" "I", Cond.methodLink RX8 145 yX3_standingOn, Cond.instanceMethod yX3_standingOn, Cond.selects RX3 yX3_standingOn yX3_standingOn, Cond.code yX3_standingOn cX3_standingOn 5 (some .int), Cond.methodLink RX8 228 yX3_at, Cond.instanceMethod yX3_at, Cond.selects RX3 yX3_at yX3_at, Cond.code yX3_at cX3_at 2 (some (.object "RateBook$RateList")), Cond.methodLink RX8 231 yX4_unitFor, Cond.instanceMethod yX4_unitFor, Cond.selects RX4 yX4_unitFor yX4_unitFor, Cond.initialized RX4, Cond.code yX4_unitFor cX4_unitFor 4 (some (.object "RateBook$Unit")), Cond.fieldLink RX4 17 "RateBook$RateList" "units" "[LRateBook$Unit;", Cond.methodLink RX8 128 yX2_sizeOn, Cond.instanceMethod yX2_sizeOn, Cond.selects RX2 yX2_sizeOn yX2_sizeOn, Cond.initialized RX2, Cond.code yX2_sizeOn cX2_sizeOn 3 (some .int), Cond.fieldLink RX2 33 "RateBook$House" "events" "LRateBook$Events;", Cond.fieldLink RX2 24 "RateBook$House" "size" "I", Cond.fieldLink RX2 41 "RateBook$Event" "value" "I", Cond.methodLink RX2 37 yX1_latestOf]
def wsX8_bill_r4 : List Cond := [Cond.instanceMethod yX1_latestOf, Cond.selects RX1 yX1_latestOf yX1_latestOf, Cond.code yX1_latestOf cX1_latestOf 6 (some (.object "RateBook$Event")), Cond.fieldLink RX1 30 "RateBook$Event" "kind" "I", Cond.methodLink RX8 87 yX6_times, Cond.instanceMethod yX6_times, Cond.selects RX6 yX6_times yX6_times, Cond.initialized RX6, Cond.code yX6_times cX6_times 2 (some .long), Cond.fieldLink RX6 13 "RateBook$Unit" "below" "I", Cond.fieldLink RX6 7 "RateBook$Unit" "above" "I", Cond.methodLink RX8 240 yX1_cutDown, Cond.instanceMethod yX1_cutDown, Cond.selects RX1 yX1_cutDown yX1_cutDown, Cond.code yX1_cutDown cX1_cutDown 9 (some .long), Cond.fieldLink RX1 33 "RateBook$Event" "value" "I", Cond.constantLong RX1 36 (1000), Cond.methodLink RX8 244 yX1_latestOf, Cond.methodLink RX8 142 yX8_relieved, Cond.static yX8_relieved, Cond.code yX8_relieved cX8_relieved 1 (some .int), Cond.methodLink RX8 154 yX8_billFor, Cond.static yX8_billFor, Cond.code yX8_billFor cX8_billFor 3 (some .int)]
def wsX8_bill_r5 : List Cond := [Cond.constantLong RX8 258 (365000)]
def wsX8_bill : List Cond := .code yX8_bill cX8_bill 5 (some .int) :: ((wsX8_bill_r1 ++ (wsX8_bill_r2 ++ (wsX8_bill_r3 ++ (wsX8_bill_r4 ++ wsX8_bill_r5)))) ++ wsX80 ++ wsX50 ++ wsX20 ++ wsX10 ++ wsX00 ++ wsX30 ++ wsX40 ++ wsX60)
def wsX8_readYearSums_r1 : List Cond := [Cond.fieldLink RX8 23 "RateBook" "yearSums" "[J", Cond.fieldLink RX8 12 "RateBook" "town" "LRateBook$Town;", Cond.methodLink RX8 47 yX5_at, Cond.instanceMethod yX5_at, Cond.selects RX5 yX5_at yX5_at, Cond.initialized RX5, Cond.code yX5_at cX5_at 2 (some (.object "RateBook$House")), Cond.fieldLink RX5 11 "RateBook$Town" "houses" "[LRateBook$House;", Cond.methodLink RX8 150 yX8_sumOfYear, Cond.instanceMethod yX8_sumOfYear, Cond.selects RX8 yX8_sumOfYear yX8_sumOfYear, Cond.initialized RX8, Cond.code yX8_sumOfYear cX8_sumOfYear 9 (some .long), Cond.fieldLink RX8 19 "RateBook" "lists" "LRateBook$Lists;", Cond.fieldLink RX8 105 "RateBook$House" "events" "LRateBook$Events;", Cond.methodLink RX8 254 yX1_nextChange, Cond.instanceMethod yX1_nextChange, Cond.selects RX1 yX1_nextChange yX1_nextChange, Cond.initialized RX1, Cond.code yX1_nextChange cX1_nextChange 6 (some .int), Cond.fieldLink RX1 11 "RateBook$Events" "byDay" "[LRateBook$Event;", Cond.fieldLink RX1 21 "RateBook$Event" "day" "I", Cond.static yX8_sooner, Cond.code yX8_sooner cX8_sooner 3 (some .int)]
def wsX8_readYearSums_r2 : List Cond := [Cond.methodLink RX8 257 yX3_nextChange, Cond.instanceMethod yX3_nextChange, Cond.selects RX3 yX3_nextChange yX3_nextChange, Cond.initialized RX3, Cond.code yX3_nextChange cX3_nextChange 6 (some .int), Cond.fieldLink RX3 11 "RateBook$Lists" "byDay" "[LRateBook$RateList;", Cond.fieldLink RX3 25 "RateBook$RateList" "day" "I", Cond.methodLink RX8 139 yX8_countedOn, Cond.instanceMethod yX8_countedOn, Cond.selects RX8 yX8_countedOn yX8_countedOn, Cond.code yX8_countedOn cX8_countedOn 5 (some .int), Cond.fieldLink RX8 248 "RateBook$Event" "value" "I", Cond.fieldLink RX8 253 "RateBook$Event" "day" "I", Cond.methodLink RX8 135 yX8_worthOn, Cond.instanceMethod yX8_worthOn, Cond.selects RX8 yX8_worthOn yX8_worthOn, Cond.code yX8_worthOn cX8_worthOn 5 (some .int), Cond.fieldLink RX8 75 "RateBook$House" "kind" "I", Cond.fieldLink RX8 78 "RateBook$House" "street" "I", Cond.fieldLink RX8 237 "RateBook$RateList" "day" "I", Cond.methodLink RX8 145 yX3_standingOn, Cond.instanceMethod yX3_standingOn, Cond.selects RX3 yX3_standingOn yX3_standingOn, Cond.code yX3_standingOn cX3_standingOn 5 (some .int)]
def wsX8_readYearSums_r3 : List Cond := [Cond.methodLink RX8 228 yX3_at, Cond.instanceMethod yX3_at, Cond.selects RX3 yX3_at yX3_at, Cond.code yX3_at cX3_at 2 (some (.object "RateBook$RateList")), Cond.methodLink RX8 231 yX4_unitFor, Cond.instanceMethod yX4_unitFor, Cond.selects RX4 yX4_unitFor yX4_unitFor, Cond.initialized RX4, Cond.code yX4_unitFor cX4_unitFor 4 (some (.object "RateBook$Unit")), Cond.fieldLink RX4 17 "RateBook$RateList" "units" "[LRateBook$Unit;", Cond.methodLink RX8 128 yX2_sizeOn, Cond.instanceMethod yX2_sizeOn, Cond.selects RX2 yX2_sizeOn yX2_sizeOn, Cond.initialized RX2, Cond.code yX2_sizeOn cX2_sizeOn 3 (some .int), Cond.fieldLink RX2 33 "RateBook$House" "events" "LRateBook$Events;", Cond.fieldLink RX2 24 "RateBook$House" "size" "I", Cond.fieldLink RX2 41 "RateBook$Event" "value" "I", Cond.methodLink RX2 37 yX1_latestOf, Cond.instanceMethod yX1_latestOf, Cond.selects RX1 yX1_latestOf yX1_latestOf, Cond.code yX1_latestOf cX1_latestOf 6 (some (.object "RateBook$Event")), Cond.fieldLink RX1 30 "RateBook$Event" "kind" "I", Cond.methodLink RX8 87 yX6_times]
def wsX8_readYearSums_r4 : List Cond := [Cond.instanceMethod yX6_times, Cond.selects RX6 yX6_times yX6_times, Cond.initialized RX6, Cond.code yX6_times cX6_times 2 (some .long), Cond.fieldLink RX6 13 "RateBook$Unit" "below" "I", Cond.fieldLink RX6 7 "RateBook$Unit" "above" "I", Cond.methodLink RX8 240 yX1_cutDown, Cond.instanceMethod yX1_cutDown, Cond.selects RX1 yX1_cutDown yX1_cutDown, Cond.code yX1_cutDown cX1_cutDown 9 (some .long), Cond.fieldLink RX1 33 "RateBook$Event" "value" "I", Cond.constantLong RX1 36 (1000), Cond.methodLink RX8 244 yX1_latestOf, Cond.methodLink RX8 142 yX8_relieved, Cond.static yX8_relieved, Cond.code yX8_relieved cX8_relieved 1 (some .int)]
def wsX8_readYearSums : List Cond := .code yX8_readYearSums cX8_readYearSums 4 none :: ((wsX8_readYearSums_r1 ++ (wsX8_readYearSums_r2 ++ (wsX8_readYearSums_r3 ++ wsX8_readYearSums_r4))) ++ wsX80 ++ wsX50 ++ wsX20 ++ wsX10 ++ wsX00 ++ wsX30 ++ wsX40 ++ wsX60)
def wsX8_billsTogether : List Cond := .code yX8_billsTogether cX8_billsTogether 5 (some .long) :: ([.fieldLink RX8 23 "RateBook" "yearSums" "[J", .methodLink RX8 154 yX8_billFor, .static yX8_billFor, .initialized RX8, .code yX8_billFor cX8_billFor 3 (some .int), .constantLong RX8 258 (365000)] ++ wsX80)
def wsX8_leastPoundage : List Cond := .code yX8_leastPoundage cX8_leastPoundage 4 (some .int) :: ([.methodLink RX8 260 yX8_billsTogether, .instanceMethod yX8_billsTogether, .selects RX8 yX8_billsTogether yX8_billsTogether, .initialized RX8, .code yX8_billsTogether cX8_billsTogether 5 (some .long), .fieldLink RX8 23 "RateBook" "yearSums" "[J", .methodLink RX8 154 yX8_billFor, .static yX8_billFor, .code yX8_billFor cX8_billFor 3 (some .int), .constantLong RX8 258 (365000)] ++ wsX80)
def wsX8_poundage_r1 : List Cond := [Cond.constant RX8 158 (100000000), Cond.methodLink RX8 34 yX8_isOf, Cond.static yX8_isOf, Cond.initialized RX8, Cond.code yX8_isOf cX8_isOf 2 (some .boolean), Cond.methodLink RX8 38 yX8_isWithin, Cond.static yX8_isWithin, Cond.code yX8_isWithin cX8_isWithin 3 (some .boolean), Cond.methodLink RX8 159 yX8_readYearSums, Cond.instanceMethod yX8_readYearSums, Cond.selects RX8 yX8_readYearSums yX8_readYearSums, Cond.code yX8_readYearSums cX8_readYearSums 4 none, Cond.fieldLink RX8 23 "RateBook" "yearSums" "[J", Cond.fieldLink RX8 12 "RateBook" "town" "LRateBook$Town;", Cond.methodLink RX8 47 yX5_at, Cond.instanceMethod yX5_at, Cond.selects RX5 yX5_at yX5_at, Cond.initialized RX5, Cond.code yX5_at cX5_at 2 (some (.object "RateBook$House")), Cond.fieldLink RX5 11 "RateBook$Town" "houses" "[LRateBook$House;", Cond.methodLink RX8 150 yX8_sumOfYear, Cond.instanceMethod yX8_sumOfYear, Cond.selects RX8 yX8_sumOfYear yX8_sumOfYear, Cond.code yX8_sumOfYear cX8_sumOfYear 9 (some .long)]
def wsX8_poundage_r2 : List Cond := [Cond.fieldLink RX8 19 "RateBook" "lists" "LRateBook$Lists;", Cond.fieldLink RX8 105 "RateBook$House" "events" "LRateBook$Events;", Cond.methodLink RX8 254 yX1_nextChange, Cond.instanceMethod yX1_nextChange, Cond.selects RX1 yX1_nextChange yX1_nextChange, Cond.initialized RX1, Cond.code yX1_nextChange cX1_nextChange 6 (some .int), Cond.fieldLink RX1 11 "RateBook$Events" "byDay" "[LRateBook$Event;", Cond.fieldLink RX1 21 "RateBook$Event" "day" "I", Cond.static yX8_sooner, Cond.code yX8_sooner cX8_sooner 3 (some .int), Cond.methodLink RX8 257 yX3_nextChange, Cond.instanceMethod yX3_nextChange, Cond.selects RX3 yX3_nextChange yX3_nextChange, Cond.initialized RX3, Cond.code yX3_nextChange cX3_nextChange 6 (some .int), Cond.fieldLink RX3 11 "RateBook$Lists" "byDay" "[LRateBook$RateList;", Cond.fieldLink RX3 25 "RateBook$RateList" "day" "I", Cond.methodLink RX8 139 yX8_countedOn, Cond.instanceMethod yX8_countedOn, Cond.selects RX8 yX8_countedOn yX8_countedOn, Cond.code yX8_countedOn cX8_countedOn 5 (some .int), Cond.fieldLink RX8 248 "RateBook$Event" "value" "I", Cond.fieldLink RX8 253 "RateBook$Event" "day" "I"]
def wsX8_poundage_r3 : List Cond := [Cond.methodLink RX8 135 yX8_worthOn, Cond.instanceMethod yX8_worthOn, Cond.selects RX8 yX8_worthOn yX8_worthOn, Cond.code yX8_worthOn cX8_worthOn 5 (some .int), Cond.fieldLink RX8 75 "RateBook$House" "kind" "I", Cond.fieldLink RX8 78 "RateBook$House" "street" "I", Cond.fieldLink RX8 237 "RateBook$RateList" "day" "I", Cond.methodLink RX8 145 yX3_standingOn, Cond.instanceMethod yX3_standingOn, Cond.selects RX3 yX3_standingOn yX3_standingOn, Cond.code yX3_standingOn cX3_standingOn 5 (some .int), Cond.methodLink RX8 228 yX3_at, Cond.instanceMethod yX3_at, Cond.selects RX3 yX3_at yX3_at, Cond.code yX3_at cX3_at 2 (some (.object "RateBook$RateList")), Cond.methodLink RX8 231 yX4_unitFor, Cond.instanceMethod yX4_unitFor, Cond.selects RX4 yX4_unitFor yX4_unitFor, Cond.initialized RX4, Cond.code yX4_unitFor cX4_unitFor 4 (some (.object "RateBook$Unit")), Cond.fieldLink RX4 17 "RateBook$RateList" "units" "[LRateBook$Unit;", Cond.methodLink RX8 128 yX2_sizeOn, Cond.instanceMethod yX2_sizeOn, Cond.selects RX2 yX2_sizeOn yX2_sizeOn]
def wsX8_poundage_r4 : List Cond := [Cond.initialized RX2, Cond.code yX2_sizeOn cX2_sizeOn 3 (some .int), Cond.fieldLink RX2 33 "RateBook$House" "events" "LRateBook$Events;", Cond.fieldLink RX2 24 "RateBook$House" "size" "I", Cond.fieldLink RX2 41 "RateBook$Event" "value" "I", Cond.methodLink RX2 37 yX1_latestOf, Cond.instanceMethod yX1_latestOf, Cond.selects RX1 yX1_latestOf yX1_latestOf, Cond.code yX1_latestOf cX1_latestOf 6 (some (.object "RateBook$Event")), Cond.fieldLink RX1 30 "RateBook$Event" "kind" "I", Cond.methodLink RX8 87 yX6_times, Cond.instanceMethod yX6_times, Cond.selects RX6 yX6_times yX6_times, Cond.initialized RX6, Cond.code yX6_times cX6_times 2 (some .long), Cond.fieldLink RX6 13 "RateBook$Unit" "below" "I", Cond.fieldLink RX6 7 "RateBook$Unit" "above" "I", Cond.methodLink RX8 240 yX1_cutDown, Cond.instanceMethod yX1_cutDown, Cond.selects RX1 yX1_cutDown yX1_cutDown, Cond.code yX1_cutDown cX1_cutDown 9 (some .long), Cond.fieldLink RX1 33 "RateBook$Event" "value" "I", Cond.constantLong RX1 36 (1000), Cond.methodLink RX8 244 yX1_latestOf]
def wsX8_poundage_r5 : List Cond := [Cond.methodLink RX8 142 yX8_relieved, Cond.static yX8_relieved, Cond.code yX8_relieved cX8_relieved 1 (some .int), Cond.methodLink RX8 163 yX8_leastPoundage, Cond.instanceMethod yX8_leastPoundage, Cond.selects RX8 yX8_leastPoundage yX8_leastPoundage, Cond.code yX8_leastPoundage cX8_leastPoundage 4 (some .int), Cond.methodLink RX8 260 yX8_billsTogether, Cond.instanceMethod yX8_billsTogether, Cond.selects RX8 yX8_billsTogether yX8_billsTogether, Cond.code yX8_billsTogether cX8_billsTogether 5 (some .long), Cond.methodLink RX8 154 yX8_billFor, Cond.static yX8_billFor, Cond.code yX8_billFor cX8_billFor 3 (some .int), Cond.constantLong RX8 258 (365000)]
def wsX8_poundage : List Cond := .code yX8_poundage cX8_poundage 3 (some .int) :: ((wsX8_poundage_r1 ++ (wsX8_poundage_r2 ++ (wsX8_poundage_r3 ++ (wsX8_poundage_r4 ++ wsX8_poundage_r5)))) ++ wsX80 ++ wsX50 ++ wsX20 ++ wsX10 ++ wsX00 ++ wsX30 ++ wsX40 ++ wsX60)
def wsX8_bookOf : List Cond := .code yX8_bookOf cX8_bookOf 2 (some (.object "RateBook$YearBook")) :: ([.fieldLink RX8 29 "RateBook" "books" "[LRateBook$YearBook;"] ++ wsX80)
def wsX8_struck_r1 : List Cond := [Cond.constant RX8 158 (100000000), Cond.fieldLink RX8 170 "RateBook$YearBook" "isStruck" "Z", Cond.fieldLink RX8 174 "RateBook$YearBook" "needs" "I", Cond.fieldLink RX8 177 "RateBook$YearBook" "thousandths" "I", Cond.fieldLink RX8 12 "RateBook" "town" "LRateBook$Town;", Cond.fieldLink RX8 23 "RateBook" "yearSums" "[J", Cond.methodLink RX8 166 yX8_bookOf, Cond.instanceMethod yX8_bookOf, Cond.selects RX8 yX8_bookOf yX8_bookOf, Cond.initialized RX8, Cond.code yX8_bookOf cX8_bookOf 2 (some (.object "RateBook$YearBook")), Cond.fieldLink RX8 29 "RateBook" "books" "[LRateBook$YearBook;", Cond.methodLink RX8 38 yX8_isWithin, Cond.static yX8_isWithin, Cond.code yX8_isWithin cX8_isWithin 3 (some .boolean), Cond.methodLink RX8 159 yX8_readYearSums, Cond.instanceMethod yX8_readYearSums, Cond.selects RX8 yX8_readYearSums yX8_readYearSums, Cond.code yX8_readYearSums cX8_readYearSums 4 none, Cond.methodLink RX8 47 yX5_at, Cond.instanceMethod yX5_at, Cond.selects RX5 yX5_at yX5_at, Cond.initialized RX5, Cond.code yX5_at cX5_at 2 (some (.object "RateBook$House"))]
def wsX8_struck_r2 : List Cond := [Cond.fieldLink RX5 11 "RateBook$Town" "houses" "[LRateBook$House;", Cond.methodLink RX8 150 yX8_sumOfYear, Cond.instanceMethod yX8_sumOfYear, Cond.selects RX8 yX8_sumOfYear yX8_sumOfYear, Cond.code yX8_sumOfYear cX8_sumOfYear 9 (some .long), Cond.fieldLink RX8 19 "RateBook" "lists" "LRateBook$Lists;", Cond.fieldLink RX8 105 "RateBook$House" "events" "LRateBook$Events;", Cond.methodLink RX8 254 yX1_nextChange, Cond.instanceMethod yX1_nextChange, Cond.selects RX1 yX1_nextChange yX1_nextChange, Cond.initialized RX1, Cond.code yX1_nextChange cX1_nextChange 6 (some .int), Cond.fieldLink RX1 11 "RateBook$Events" "byDay" "[LRateBook$Event;", Cond.fieldLink RX1 21 "RateBook$Event" "day" "I", Cond.static yX8_sooner, Cond.code yX8_sooner cX8_sooner 3 (some .int), Cond.methodLink RX8 257 yX3_nextChange, Cond.instanceMethod yX3_nextChange, Cond.selects RX3 yX3_nextChange yX3_nextChange, Cond.initialized RX3, Cond.code yX3_nextChange cX3_nextChange 6 (some .int), Cond.fieldLink RX3 11 "RateBook$Lists" "byDay" "[LRateBook$RateList;", Cond.fieldLink RX3 25 "RateBook$RateList" "day" "I", Cond.methodLink RX8 139 yX8_countedOn]
def wsX8_struck_r3 : List Cond := [Cond.instanceMethod yX8_countedOn, Cond.selects RX8 yX8_countedOn yX8_countedOn, Cond.code yX8_countedOn cX8_countedOn 5 (some .int), Cond.fieldLink RX8 248 "RateBook$Event" "value" "I", Cond.fieldLink RX8 253 "RateBook$Event" "day" "I", Cond.methodLink RX8 135 yX8_worthOn, Cond.instanceMethod yX8_worthOn, Cond.selects RX8 yX8_worthOn yX8_worthOn, Cond.code yX8_worthOn cX8_worthOn 5 (some .int), Cond.fieldLink RX8 75 "RateBook$House" "kind" "I", Cond.fieldLink RX8 78 "RateBook$House" "street" "I", Cond.fieldLink RX8 237 "RateBook$RateList" "day" "I", Cond.methodLink RX8 145 yX3_standingOn, Cond.instanceMethod yX3_standingOn, Cond.selects RX3 yX3_standingOn yX3_standingOn, Cond.code yX3_standingOn cX3_standingOn 5 (some .int), Cond.methodLink RX8 228 yX3_at, Cond.instanceMethod yX3_at, Cond.selects RX3 yX3_at yX3_at, Cond.code yX3_at cX3_at 2 (some (.object "RateBook$RateList")), Cond.methodLink RX8 231 yX4_unitFor, Cond.instanceMethod yX4_unitFor, Cond.selects RX4 yX4_unitFor yX4_unitFor, Cond.initialized RX4]
def wsX8_struck_r4 : List Cond := [Cond.code yX4_unitFor cX4_unitFor 4 (some (.object "RateBook$Unit")), Cond.fieldLink RX4 17 "RateBook$RateList" "units" "[LRateBook$Unit;", Cond.methodLink RX8 128 yX2_sizeOn, Cond.instanceMethod yX2_sizeOn, Cond.selects RX2 yX2_sizeOn yX2_sizeOn, Cond.initialized RX2, Cond.code yX2_sizeOn cX2_sizeOn 3 (some .int), Cond.fieldLink RX2 33 "RateBook$House" "events" "LRateBook$Events;", Cond.fieldLink RX2 24 "RateBook$House" "size" "I", Cond.fieldLink RX2 41 "RateBook$Event" "value" "I", Cond.methodLink RX2 37 yX1_latestOf, Cond.instanceMethod yX1_latestOf, Cond.selects RX1 yX1_latestOf yX1_latestOf, Cond.code yX1_latestOf cX1_latestOf 6 (some (.object "RateBook$Event")), Cond.fieldLink RX1 30 "RateBook$Event" "kind" "I", Cond.methodLink RX8 87 yX6_times, Cond.instanceMethod yX6_times, Cond.selects RX6 yX6_times yX6_times, Cond.initialized RX6, Cond.code yX6_times cX6_times 2 (some .long), Cond.fieldLink RX6 13 "RateBook$Unit" "below" "I", Cond.fieldLink RX6 7 "RateBook$Unit" "above" "I", Cond.methodLink RX8 240 yX1_cutDown, Cond.instanceMethod yX1_cutDown]
def wsX8_struck_r5 : List Cond := [Cond.selects RX1 yX1_cutDown yX1_cutDown, Cond.code yX1_cutDown cX1_cutDown 9 (some .long), Cond.fieldLink RX1 33 "RateBook$Event" "value" "I", Cond.constantLong RX1 36 (1000), Cond.methodLink RX8 244 yX1_latestOf, Cond.methodLink RX8 142 yX8_relieved, Cond.static yX8_relieved, Cond.code yX8_relieved cX8_relieved 1 (some .int), Cond.methodLink RX8 163 yX8_leastPoundage, Cond.instanceMethod yX8_leastPoundage, Cond.selects RX8 yX8_leastPoundage yX8_leastPoundage, Cond.code yX8_leastPoundage cX8_leastPoundage 4 (some .int), Cond.methodLink RX8 260 yX8_billsTogether, Cond.instanceMethod yX8_billsTogether, Cond.selects RX8 yX8_billsTogether yX8_billsTogether, Cond.code yX8_billsTogether cX8_billsTogether 5 (some .long), Cond.methodLink RX8 154 yX8_billFor, Cond.static yX8_billFor, Cond.code yX8_billFor cX8_billFor 3 (some .int), Cond.constantLong RX8 258 (365000), Cond.methodLink RX8 181 yX7_putBilled, Cond.instanceMethod yX7_putBilled, Cond.selects RX7 yX7_putBilled yX7_putBilled, Cond.initialized RX7]
def wsX8_struck_r6 : List Cond := [Cond.code yX7_putBilled cX7_putBilled 3 none, Cond.fieldLink RX7 9 "RateBook$YearBook" "billed" "[I"]
def wsX8_struck : List Cond := .code yX8_struck cX8_struck 6 (some .int) :: ((wsX8_struck_r1 ++ (wsX8_struck_r2 ++ (wsX8_struck_r3 ++ (wsX8_struck_r4 ++ (wsX8_struck_r5 ++ wsX8_struck_r6))))) ++ wsX70 ++ wsX80 ++ wsX50 ++ wsX20 ++ wsX10 ++ wsX00 ++ wsX30 ++ wsX40 ++ wsX60)
def wsX8_pay_r1 : List Cond := [Cond.fieldLink RX8 12 "RateBook" "town" "LRateBook$Town;", Cond.constant RX8 185 (10000000), Cond.methodLink RX8 166 yX8_bookOf, Cond.instanceMethod yX8_bookOf, Cond.selects RX8 yX8_bookOf yX8_bookOf, Cond.initialized RX8, Cond.code yX8_bookOf cX8_bookOf 2 (some (.object "RateBook$YearBook")), Cond.fieldLink RX8 29 "RateBook" "books" "[LRateBook$YearBook;", Cond.methodLink RX8 47 yX5_at, Cond.instanceMethod yX5_at, Cond.selects RX5 yX5_at yX5_at, Cond.initialized RX5, Cond.code yX5_at cX5_at 2 (some (.object "RateBook$House")), Cond.fieldLink RX5 11 "RateBook$Town" "houses" "[LRateBook$House;", Cond.methodLink RX8 38 yX8_isWithin, Cond.static yX8_isWithin, Cond.code yX8_isWithin cX8_isWithin 3 (some .boolean), Cond.methodLink RX8 186 yX7_paidBy, Cond.instanceMethod yX7_paidBy, Cond.selects RX7 yX7_paidBy yX7_paidBy, Cond.initialized RX7, Cond.code yX7_paidBy cX7_paidBy 2 (some .int), Cond.fieldLink RX7 15 "RateBook$YearBook" "payments" "[I", Cond.methodLink RX8 189 yX7_putPaid]
def wsX8_pay_r2 : List Cond := [Cond.instanceMethod yX7_putPaid, Cond.selects RX7 yX7_putPaid yX7_putPaid, Cond.code yX7_putPaid cX7_putPaid 3 none]
def wsX8_pay : List Cond := .code yX8_pay cX8_pay 6 (some .int) :: ((wsX8_pay_r1 ++ wsX8_pay_r2) ++ wsX80 ++ wsX50 ++ wsX70)
def wsX8_paid_r1 : List Cond := [Cond.fieldLink RX8 12 "RateBook" "town" "LRateBook$Town;", Cond.methodLink RX8 166 yX8_bookOf, Cond.instanceMethod yX8_bookOf, Cond.selects RX8 yX8_bookOf yX8_bookOf, Cond.initialized RX8, Cond.code yX8_bookOf cX8_bookOf 2 (some (.object "RateBook$YearBook")), Cond.fieldLink RX8 29 "RateBook" "books" "[LRateBook$YearBook;", Cond.methodLink RX8 47 yX5_at, Cond.instanceMethod yX5_at, Cond.selects RX5 yX5_at yX5_at, Cond.initialized RX5, Cond.code yX5_at cX5_at 2 (some (.object "RateBook$House")), Cond.fieldLink RX5 11 "RateBook$Town" "houses" "[LRateBook$House;", Cond.methodLink RX8 34 yX8_isOf, Cond.static yX8_isOf, Cond.code yX8_isOf cX8_isOf 2 (some .boolean), Cond.methodLink RX8 192 yX7_billedTo, Cond.instanceMethod yX7_billedTo, Cond.selects RX7 yX7_billedTo yX7_billedTo, Cond.initialized RX7, Cond.code yX7_billedTo cX7_billedTo 2 (some .int), Cond.fieldLink RX7 9 "RateBook$YearBook" "billed" "[I", Cond.methodLink RX8 186 yX7_paidBy, Cond.instanceMethod yX7_paidBy]
def wsX8_paid_r2 : List Cond := [Cond.selects RX7 yX7_paidBy yX7_paidBy, Cond.code yX7_paidBy cX7_paidBy 2 (some .int), Cond.fieldLink RX7 15 "RateBook$YearBook" "payments" "[I"]
def wsX8_paid : List Cond := .code yX8_paid cX8_paid 5 (some .int) :: ((wsX8_paid_r1 ++ wsX8_paid_r2) ++ wsX80 ++ wsX50 ++ wsX70)
def wsX8_openOf : List Cond := .code yX8_openOf cX8_openOf 4 (some .int) :: ([.methodLink RX8 166 yX8_bookOf, .instanceMethod yX8_bookOf, .selects RX8 yX8_bookOf yX8_bookOf, .initialized RX8, .code yX8_bookOf cX8_bookOf 2 (some (.object "RateBook$YearBook")), .fieldLink RX8 29 "RateBook" "books" "[LRateBook$YearBook;", .methodLink RX8 192 yX7_billedTo, .instanceMethod yX7_billedTo, .selects RX7 yX7_billedTo yX7_billedTo, .initialized RX7, .code yX7_billedTo cX7_billedTo 2 (some .int), .fieldLink RX7 9 "RateBook$YearBook" "billed" "[I", .methodLink RX8 186 yX7_paidBy, .instanceMethod yX7_paidBy, .selects RX7 yX7_paidBy yX7_paidBy, .code yX7_paidBy cX7_paidBy 2 (some .int), .fieldLink RX7 15 "RateBook$YearBook" "payments" "[I"] ++ wsX80 ++ wsX70)
def wsX8_owed_r1 : List Cond := [Cond.fieldLink RX8 12 "RateBook" "town" "LRateBook$Town;", Cond.methodLink RX8 199 Lib.Math.max.name, Cond.static Lib.Math.max.name, Cond.initialized "java/lang/Math", Cond.code Lib.Math.max.name Lib.Math.max.code 2 (some .int), Cond.methodLink RX8 47 yX5_at, Cond.instanceMethod yX5_at, Cond.selects RX5 yX5_at yX5_at, Cond.initialized RX5, Cond.code yX5_at cX5_at 2 (some (.object "RateBook$House")), Cond.fieldLink RX5 11 "RateBook$Town" "houses" "[LRateBook$House;", Cond.methodLink RX8 34 yX8_isOf, Cond.static yX8_isOf, Cond.initialized RX8, Cond.code yX8_isOf cX8_isOf 2 (some .boolean), Cond.methodLink RX8 195 yX8_openOf, Cond.instanceMethod yX8_openOf, Cond.selects RX8 yX8_openOf yX8_openOf, Cond.code yX8_openOf cX8_openOf 4 (some .int), Cond.methodLink RX8 166 yX8_bookOf, Cond.instanceMethod yX8_bookOf, Cond.selects RX8 yX8_bookOf yX8_bookOf, Cond.code yX8_bookOf cX8_bookOf 2 (some (.object "RateBook$YearBook")), Cond.fieldLink RX8 29 "RateBook" "books" "[LRateBook$YearBook;"]
def wsX8_owed_r2 : List Cond := [Cond.methodLink RX8 192 yX7_billedTo, Cond.instanceMethod yX7_billedTo, Cond.selects RX7 yX7_billedTo yX7_billedTo, Cond.initialized RX7, Cond.code yX7_billedTo cX7_billedTo 2 (some .int), Cond.fieldLink RX7 9 "RateBook$YearBook" "billed" "[I", Cond.methodLink RX8 186 yX7_paidBy, Cond.instanceMethod yX7_paidBy, Cond.selects RX7 yX7_paidBy yX7_paidBy, Cond.code yX7_paidBy cX7_paidBy 2 (some .int), Cond.fieldLink RX7 15 "RateBook$YearBook" "payments" "[I"]
def wsX8_owed : List Cond := .code yX8_owed cX8_owed 6 (some .int) :: ((wsX8_owed_r1 ++ wsX8_owed_r2) ++ wsX80 ++ wsX50 ++ wsX70)
def wsX8_billedIn : List Cond := .code yX8_billedIn cX8_billedIn 5 (some .int) :: ([.fieldLink RX8 12 "RateBook" "town" "LRateBook$Town;", .methodLink RX8 199 Lib.Math.max.name, .static Lib.Math.max.name, .initialized "java/lang/Math", .code Lib.Math.max.name Lib.Math.max.code 2 (some .int), .methodLink RX8 263 yX5_isIn, .instanceMethod yX5_isIn, .selects RX5 yX5_isIn yX5_isIn, .initialized RX5, .code yX5_isIn cX5_isIn 4 (some .boolean), .fieldLink RX5 28 "RateBook$House" "ward" "I", .methodLink RX5 24 yX5_at, .instanceMethod yX5_at, .selects RX5 yX5_at yX5_at, .code yX5_at cX5_at 2 (some (.object "RateBook$House")), .fieldLink RX5 11 "RateBook$Town" "houses" "[LRateBook$House;", .methodLink RX8 192 yX7_billedTo, .instanceMethod yX7_billedTo, .selects RX7 yX7_billedTo yX7_billedTo, .initialized RX7, .code yX7_billedTo cX7_billedTo 2 (some .int), .fieldLink RX7 9 "RateBook$YearBook" "billed" "[I"] ++ wsX80 ++ wsX50 ++ wsX20 ++ wsX70)
def wsX8_paidIn : List Cond := .code yX8_paidIn cX8_paidIn 5 (some .int) :: ([.fieldLink RX8 12 "RateBook" "town" "LRateBook$Town;", .methodLink RX8 263 yX5_isIn, .instanceMethod yX5_isIn, .selects RX5 yX5_isIn yX5_isIn, .initialized RX5, .code yX5_isIn cX5_isIn 4 (some .boolean), .fieldLink RX5 28 "RateBook$House" "ward" "I", .methodLink RX5 24 yX5_at, .instanceMethod yX5_at, .selects RX5 yX5_at yX5_at, .code yX5_at cX5_at 2 (some (.object "RateBook$House")), .fieldLink RX5 11 "RateBook$Town" "houses" "[LRateBook$House;", .methodLink RX8 186 yX7_paidBy, .instanceMethod yX7_paidBy, .selects RX7 yX7_paidBy yX7_paidBy, .initialized RX7, .code yX7_paidBy cX7_paidBy 2 (some .int), .fieldLink RX7 15 "RateBook$YearBook" "payments" "[I"] ++ wsX80 ++ wsX50 ++ wsX20 ++ wsX70)
def wsX8_ward_r1 : List Cond := [Cond.fieldLink RX8 170 "RateBook$YearBook" "isStruck" "Z", Cond.fieldLink RX8 177 "RateBook$YearBook" "thousandths" "I", Cond.fieldLink RX8 174 "RateBook$YearBook" "needs" "I", Cond.methodLink RX8 166 yX8_bookOf, Cond.instanceMethod yX8_bookOf, Cond.selects RX8 yX8_bookOf yX8_bookOf, Cond.initialized RX8, Cond.code yX8_bookOf cX8_bookOf 2 (some (.object "RateBook$YearBook")), Cond.fieldLink RX8 29 "RateBook" "books" "[LRateBook$YearBook;", Cond.methodLink RX8 38 yX8_isWithin, Cond.static yX8_isWithin, Cond.code yX8_isWithin cX8_isWithin 3 (some .boolean), Cond.methodLink RX8 34 yX8_isOf, Cond.static yX8_isOf, Cond.code yX8_isOf cX8_isOf 2 (some .boolean), Cond.methodLink RX8 204 yX8_billedIn, Cond.instanceMethod yX8_billedIn, Cond.selects RX8 yX8_billedIn yX8_billedIn, Cond.code yX8_billedIn cX8_billedIn 5 (some .int), Cond.fieldLink RX8 12 "RateBook" "town" "LRateBook$Town;", Cond.methodLink RX8 199 Lib.Math.max.name, Cond.static Lib.Math.max.name, Cond.initialized "java/lang/Math", Cond.code Lib.Math.max.name Lib.Math.max.code 2 (some .int)]
def wsX8_ward_r2 : List Cond := [Cond.methodLink RX8 263 yX5_isIn, Cond.instanceMethod yX5_isIn, Cond.selects RX5 yX5_isIn yX5_isIn, Cond.initialized RX5, Cond.code yX5_isIn cX5_isIn 4 (some .boolean), Cond.fieldLink RX5 28 "RateBook$House" "ward" "I", Cond.methodLink RX5 24 yX5_at, Cond.instanceMethod yX5_at, Cond.selects RX5 yX5_at yX5_at, Cond.code yX5_at cX5_at 2 (some (.object "RateBook$House")), Cond.fieldLink RX5 11 "RateBook$Town" "houses" "[LRateBook$House;", Cond.methodLink RX8 192 yX7_billedTo, Cond.instanceMethod yX7_billedTo, Cond.selects RX7 yX7_billedTo yX7_billedTo, Cond.initialized RX7, Cond.code yX7_billedTo cX7_billedTo 2 (some .int), Cond.fieldLink RX7 9 "RateBook$YearBook" "billed" "[I", Cond.methodLink RX8 208 yX8_paidIn, Cond.instanceMethod yX8_paidIn, Cond.selects RX8 yX8_paidIn yX8_paidIn, Cond.code yX8_paidIn cX8_paidIn 5 (some .int), Cond.methodLink RX8 186 yX7_paidBy, Cond.instanceMethod yX7_paidBy, Cond.selects RX7 yX7_paidBy yX7_paidBy]
def wsX8_ward_r3 : List Cond := [Cond.code yX7_paidBy cX7_paidBy 2 (some .int), Cond.fieldLink RX7 15 "RateBook$YearBook" "payments" "[I"]
def wsX8_ward : List Cond := .code yX8_ward cX8_ward 5 (some .int) :: ((wsX8_ward_r1 ++ (wsX8_ward_r2 ++ wsX8_ward_r3)) ++ wsX70 ++ wsX80 ++ wsX50 ++ wsX20)
def wsX8_struckYears : List Cond := .code yX8_struckYears cX8_struckYears 4 (some .int) :: ([.fieldLink RX8 29 "RateBook" "books" "[LRateBook$YearBook;", .fieldLink RX8 170 "RateBook$YearBook" "isStruck" "Z"] ++ wsX80 ++ wsX70)
def wsX8_count : List Cond := .code yX8_count cX8_count 2 (some .int) :: ([.fieldLink RX8 12 "RateBook" "town" "LRateBook$Town;", .fieldLink RX8 19 "RateBook" "lists" "LRateBook$Lists;", .methodLink RX8 214 yX5_eventsTold, .instanceMethod yX5_eventsTold, .selects RX5 yX5_eventsTold yX5_eventsTold, .initialized RX5, .code yX5_eventsTold cX5_eventsTold 4 (some .int), .fieldLink RX5 11 "RateBook$Town" "houses" "[LRateBook$House;", .fieldLink RX5 31 "RateBook$House" "events" "LRateBook$Events;", .methodLink RX8 218 yX8_struckYears, .instanceMethod yX8_struckYears, .selects RX8 yX8_struckYears yX8_struckYears, .initialized RX8, .code yX8_struckYears cX8_struckYears 4 (some .int), .fieldLink RX8 29 "RateBook" "books" "[LRateBook$YearBook;", .fieldLink RX8 170 "RateBook$YearBook" "isStruck" "Z", .methodLink RX8 221 yX5_rentsKnown, .instanceMethod yX5_rentsKnown, .selects RX5 yX5_rentsKnown yX5_rentsKnown, .code yX5_rentsKnown cX5_rentsKnown 4 (some .int), .fieldLink RX5 40 "RateBook$House" "rent" "I"] ++ wsX80 ++ wsX50 ++ wsX30 ++ wsX20 ++ wsX10 ++ wsX70)
def wsX9_init : List Cond := .code yX9_init cX9_init 1 none :: ([.methodLink RX9 1 objectInit, .instanceMethod objectInit, .code objectInit ⟨#[0xb1]⟩ 1 none, .arrayClass .int, .fieldLink RX9 7 "RateBookModel" "ward" "[I", .fieldLink RX9 13 "RateBookModel" "kind" "[I", .fieldLink RX9 16 "RateBookModel" "street" "[I", .fieldLink RX9 19 "RateBookModel" "size" "[I", .fieldLink RX9 22 "RateBookModel" "rent" "[I", .fieldLink RX9 25 "RateBookModel" "events" "[I", .fieldLink RX9 28 "RateBookModel" "eventDay" "[I", .fieldLink RX9 31 "RateBookModel" "eventKind" "[I", .fieldLink RX9 34 "RateBookModel" "eventValue" "[I", .fieldLink RX9 37 "RateBookModel" "listDay" "[I", .fieldLink RX9 40 "RateBookModel" "above" "[I", .fieldLink RX9 43 "RateBookModel" "below" "[I", .arrayClass .boolean, .fieldLink RX9 46 "RateBookModel" "isStruck" "[Z", .fieldLink RX9 50 "RateBookModel" "poundages" "[I", .fieldLink RX9 53 "RateBookModel" "needed" "[I", .fieldLink RX9 56 "RateBookModel" "billed" "[I", .fieldLink RX9 59 "RateBookModel" "payments" "[I", .arrayClass .long, .fieldLink RX9 62 "RateBookModel" "years" "[J"] ++ wsX90)
def wsX9_in : List Cond := .code yX9_in cX9_in 3 (some .boolean) :: ([])
def wsX9_isHouse : List Cond := .code yX9_isHouse cX9_isHouse 2 (some .boolean) :: ([.fieldLink RX9 66 "RateBookModel" "houses" "I", .methodLink RX9 70 yX9_in, .static yX9_in, .initialized RX9, .code yX9_in cX9_in 3 (some .boolean)] ++ wsX90)
def wsX9_isDay : List Cond := .code yX9_isDay cX9_isDay 1 (some .boolean) :: ([.methodLink RX9 70 yX9_in, .static yX9_in, .initialized RX9, .code yX9_in cX9_in 3 (some .boolean)])
def wsX9_house : List Cond := .code yX9_house cX9_house 7 (some .int) :: ([.constant RX9 74 (100000), .fieldLink RX9 66 "RateBookModel" "houses" "I", .fieldLink RX9 7 "RateBookModel" "ward" "[I", .fieldLink RX9 13 "RateBookModel" "kind" "[I", .fieldLink RX9 16 "RateBookModel" "street" "[I", .fieldLink RX9 19 "RateBookModel" "size" "[I", .fieldLink RX9 22 "RateBookModel" "rent" "[I", .fieldLink RX9 56 "RateBookModel" "billed" "[I", .methodLink RX9 70 yX9_in, .static yX9_in, .initialized RX9, .code yX9_in cX9_in 3 (some .boolean)] ++ wsX90)
def wsX9_rent : List Cond := .code yX9_rent cX9_rent 4 (some .int) :: ([.constant RX9 74 (100000), .fieldLink RX9 22 "RateBookModel" "rent" "[I", .methodLink RX9 75 yX9_isHouse, .instanceMethod yX9_isHouse, .selects RX9 yX9_isHouse yX9_isHouse, .initialized RX9, .code yX9_isHouse cX9_isHouse 2 (some .boolean), .fieldLink RX9 66 "RateBookModel" "houses" "I", .methodLink RX9 70 yX9_in, .static yX9_in, .code yX9_in cX9_in 3 (some .boolean)] ++ wsX90)
def wsX9_isAsked : List Cond := .code yX9_isAsked cX9_isAsked 5 (some .boolean) :: ([.fieldLink RX9 13 "RateBookModel" "kind" "[I", .fieldLink RX9 16 "RateBookModel" "street" "[I", .fieldLink RX9 22 "RateBookModel" "rent" "[I"] ++ wsX90)
def wsX9_isLess : List Cond := .code yX9_isLess cX9_isLess 5 (some .boolean) :: ([.fieldLink RX9 22 "RateBookModel" "rent" "[I", .fieldLink RX9 19 "RateBookModel" "size" "[I"] ++ wsX90)
def wsX9_middle : List Cond := .code yX9_middle cX9_middle 7 none :: ([.fieldLink RX9 79 "RateBookModel" "found" "I", .fieldLink RX9 82 "RateBookModel" "among" "I", .fieldLink RX9 66 "RateBookModel" "houses" "I", .methodLink RX9 85 yX9_isAsked, .instanceMethod yX9_isAsked, .selects RX9 yX9_isAsked yX9_isAsked, .initialized RX9, .code yX9_isAsked cX9_isAsked 5 (some .boolean), .fieldLink RX9 13 "RateBookModel" "kind" "[I", .fieldLink RX9 16 "RateBookModel" "street" "[I", .fieldLink RX9 22 "RateBookModel" "rent" "[I", .methodLink RX9 89 yX9_isLess, .instanceMethod yX9_isLess, .selects RX9 yX9_isLess yX9_isLess, .code yX9_isLess cX9_isLess 5 (some .boolean), .fieldLink RX9 19 "RateBookModel" "size" "[I"] ++ wsX90)
def wsX9_finds : List Cond := .code yX9_finds cX9_finds 4 none :: ([.fieldLink RX9 79 "RateBookModel" "found" "I", .methodLink RX9 93 yX9_middle, .instanceMethod yX9_middle, .selects RX9 yX9_middle yX9_middle, .initialized RX9, .code yX9_middle cX9_middle 7 none, .fieldLink RX9 82 "RateBookModel" "among" "I", .fieldLink RX9 66 "RateBookModel" "houses" "I", .methodLink RX9 85 yX9_isAsked, .instanceMethod yX9_isAsked, .selects RX9 yX9_isAsked yX9_isAsked, .code yX9_isAsked cX9_isAsked 5 (some .boolean), .fieldLink RX9 13 "RateBookModel" "kind" "[I", .fieldLink RX9 16 "RateBookModel" "street" "[I", .fieldLink RX9 22 "RateBookModel" "rent" "[I", .methodLink RX9 89 yX9_isLess, .instanceMethod yX9_isLess, .selects RX9 yX9_isLess yX9_isLess, .code yX9_isLess cX9_isLess 5 (some .boolean), .fieldLink RX9 19 "RateBookModel" "size" "[I"] ++ wsX90)
def wsX9_unit_r1 : List Cond := [Cond.fieldLink RX9 79 "RateBookModel" "found" "I", Cond.fieldLink RX9 22 "RateBookModel" "rent" "[I", Cond.fieldLink RX9 19 "RateBookModel" "size" "[I", Cond.fieldLink RX9 82 "RateBookModel" "among" "I", Cond.methodLink RX9 70 yX9_in, Cond.static yX9_in, Cond.initialized RX9, Cond.code yX9_in cX9_in 3 (some .boolean), Cond.methodLink RX9 97 yX9_finds, Cond.instanceMethod yX9_finds, Cond.selects RX9 yX9_finds yX9_finds, Cond.code yX9_finds cX9_finds 4 none, Cond.methodLink RX9 93 yX9_middle, Cond.instanceMethod yX9_middle, Cond.selects RX9 yX9_middle yX9_middle, Cond.code yX9_middle cX9_middle 7 none, Cond.fieldLink RX9 66 "RateBookModel" "houses" "I", Cond.methodLink RX9 85 yX9_isAsked, Cond.instanceMethod yX9_isAsked, Cond.selects RX9 yX9_isAsked yX9_isAsked, Cond.code yX9_isAsked cX9_isAsked 5 (some .boolean), Cond.fieldLink RX9 13 "RateBookModel" "kind" "[I", Cond.fieldLink RX9 16 "RateBookModel" "street" "[I", Cond.methodLink RX9 89 yX9_isLess]
def wsX9_unit_r2 : List Cond := [Cond.instanceMethod yX9_isLess, Cond.selects RX9 yX9_isLess yX9_isLess, Cond.code yX9_isLess cX9_isLess 5 (some .boolean)]
def wsX9_unit : List Cond := .code yX9_unit cX9_unit 4 (some .int) :: ((wsX9_unit_r1 ++ wsX9_unit_r2) ++ wsX90)
def wsX9_tested_r1 : List Cond := [Cond.fieldLink RX9 13 "RateBookModel" "kind" "[I", Cond.fieldLink RX9 16 "RateBookModel" "street" "[I", Cond.fieldLink RX9 79 "RateBookModel" "found" "I", Cond.fieldLink RX9 19 "RateBookModel" "size" "[I", Cond.fieldLink RX9 22 "RateBookModel" "rent" "[I", Cond.methodLink RX9 75 yX9_isHouse, Cond.instanceMethod yX9_isHouse, Cond.selects RX9 yX9_isHouse yX9_isHouse, Cond.initialized RX9, Cond.code yX9_isHouse cX9_isHouse 2 (some .boolean), Cond.fieldLink RX9 66 "RateBookModel" "houses" "I", Cond.methodLink RX9 70 yX9_in, Cond.static yX9_in, Cond.code yX9_in cX9_in 3 (some .boolean), Cond.methodLink RX9 97 yX9_finds, Cond.instanceMethod yX9_finds, Cond.selects RX9 yX9_finds yX9_finds, Cond.code yX9_finds cX9_finds 4 none, Cond.methodLink RX9 93 yX9_middle, Cond.instanceMethod yX9_middle, Cond.selects RX9 yX9_middle yX9_middle, Cond.code yX9_middle cX9_middle 7 none, Cond.fieldLink RX9 82 "RateBookModel" "among" "I", Cond.methodLink RX9 85 yX9_isAsked]
def wsX9_tested_r2 : List Cond := [Cond.instanceMethod yX9_isAsked, Cond.selects RX9 yX9_isAsked yX9_isAsked, Cond.code yX9_isAsked cX9_isAsked 5 (some .boolean), Cond.methodLink RX9 89 yX9_isLess, Cond.instanceMethod yX9_isLess, Cond.selects RX9 yX9_isLess yX9_isLess, Cond.code yX9_isLess cX9_isLess 5 (some .boolean)]
def wsX9_tested : List Cond := .code yX9_tested cX9_tested 2 (some .int) :: ((wsX9_tested_r1 ++ wsX9_tested_r2) ++ wsX90)
def wsX9_list_r1 : List Cond := [Cond.fieldLink RX9 103 "RateBookModel" "lists" "I", Cond.fieldLink RX9 37 "RateBookModel" "listDay" "[I", Cond.fieldLink RX9 40 "RateBookModel" "above" "[I", Cond.fieldLink RX9 43 "RateBookModel" "below" "[I", Cond.methodLink RX9 100 yX9_isDay, Cond.static yX9_isDay, Cond.initialized RX9, Cond.code yX9_isDay cX9_isDay 1 (some .boolean), Cond.methodLink RX9 70 yX9_in, Cond.static yX9_in, Cond.code yX9_in cX9_in 3 (some .boolean), Cond.methodLink RX9 106 yX9_unit, Cond.instanceMethod yX9_unit, Cond.selects RX9 yX9_unit yX9_unit, Cond.code yX9_unit cX9_unit 4 (some .int), Cond.fieldLink RX9 79 "RateBookModel" "found" "I", Cond.fieldLink RX9 22 "RateBookModel" "rent" "[I", Cond.fieldLink RX9 19 "RateBookModel" "size" "[I", Cond.fieldLink RX9 82 "RateBookModel" "among" "I", Cond.methodLink RX9 97 yX9_finds, Cond.instanceMethod yX9_finds, Cond.selects RX9 yX9_finds yX9_finds, Cond.code yX9_finds cX9_finds 4 none, Cond.methodLink RX9 93 yX9_middle]
def wsX9_list_r2 : List Cond := [Cond.instanceMethod yX9_middle, Cond.selects RX9 yX9_middle yX9_middle, Cond.code yX9_middle cX9_middle 7 none, Cond.fieldLink RX9 66 "RateBookModel" "houses" "I", Cond.methodLink RX9 85 yX9_isAsked, Cond.instanceMethod yX9_isAsked, Cond.selects RX9 yX9_isAsked yX9_isAsked, Cond.code yX9_isAsked cX9_isAsked 5 (some .boolean), Cond.fieldLink RX9 13 "RateBookModel" "kind" "[I", Cond.fieldLink RX9 16 "RateBookModel" "street" "[I", Cond.methodLink RX9 89 yX9_isLess, Cond.instanceMethod yX9_isLess, Cond.selects RX9 yX9_isLess yX9_isLess, Cond.code yX9_isLess cX9_isLess 5 (some .boolean)]
def wsX9_list : List Cond := .code yX9_list cX9_list 4 (some .int) :: ((wsX9_list_r1 ++ wsX9_list_r2) ++ wsX90)
def wsX9_isValue : List Cond := .code yX9_isValue cX9_isValue 2 (some .boolean) :: ([.methodLink RX9 70 yX9_in, .static yX9_in, .initialized RX9, .code yX9_in cX9_in 3 (some .boolean)])
def wsX9_adds : List Cond := .code yX9_adds cX9_adds 6 none :: ([.fieldLink RX9 25 "RateBookModel" "events" "[I", .fieldLink RX9 28 "RateBookModel" "eventDay" "[I", .fieldLink RX9 31 "RateBookModel" "eventKind" "[I", .fieldLink RX9 34 "RateBookModel" "eventValue" "[I"] ++ wsX90)
def wsX9_event : List Cond := .code yX9_event cX9_event 5 (some .int) :: ([.fieldLink RX9 25 "RateBookModel" "events" "[I", .methodLink RX9 75 yX9_isHouse, .instanceMethod yX9_isHouse, .selects RX9 yX9_isHouse yX9_isHouse, .initialized RX9, .code yX9_isHouse cX9_isHouse 2 (some .boolean), .fieldLink RX9 66 "RateBookModel" "houses" "I", .methodLink RX9 70 yX9_in, .static yX9_in, .code yX9_in cX9_in 3 (some .boolean), .methodLink RX9 100 yX9_isDay, .static yX9_isDay, .code yX9_isDay cX9_isDay 1 (some .boolean), .methodLink RX9 110 yX9_isValue, .static yX9_isValue, .code yX9_isValue cX9_isValue 2 (some .boolean), .methodLink RX9 113 yX9_adds, .instanceMethod yX9_adds, .selects RX9 yX9_adds yX9_adds, .code yX9_adds cX9_adds 6 none, .fieldLink RX9 28 "RateBookModel" "eventDay" "[I", .fieldLink RX9 31 "RateBookModel" "eventKind" "[I", .fieldLink RX9 34 "RateBookModel" "eventValue" "[I"] ++ wsX90)
def wsX9_isLike : List Cond := .code yX9_isLike cX9_isLike 3 (some .boolean) :: ([.fieldLink RX9 13 "RateBookModel" "kind" "[I", .fieldLink RX9 16 "RateBookModel" "street" "[I"] ++ wsX90)
def wsX9_appeal_r1 : List Cond := [Cond.fieldLink RX9 66 "RateBookModel" "houses" "I", Cond.fieldLink RX9 25 "RateBookModel" "events" "[I", Cond.methodLink RX9 75 yX9_isHouse, Cond.instanceMethod yX9_isHouse, Cond.selects RX9 yX9_isHouse yX9_isHouse, Cond.initialized RX9, Cond.code yX9_isHouse cX9_isHouse 2 (some .boolean), Cond.methodLink RX9 70 yX9_in, Cond.static yX9_in, Cond.code yX9_in cX9_in 3 (some .boolean), Cond.methodLink RX9 100 yX9_isDay, Cond.static yX9_isDay, Cond.code yX9_isDay cX9_isDay 1 (some .boolean), Cond.methodLink RX9 117 yX9_isLike, Cond.instanceMethod yX9_isLike, Cond.selects RX9 yX9_isLike yX9_isLike, Cond.code yX9_isLike cX9_isLike 3 (some .boolean), Cond.fieldLink RX9 13 "RateBookModel" "kind" "[I", Cond.fieldLink RX9 16 "RateBookModel" "street" "[I", Cond.methodLink RX9 113 yX9_adds, Cond.instanceMethod yX9_adds, Cond.selects RX9 yX9_adds yX9_adds, Cond.code yX9_adds cX9_adds 6 none, Cond.fieldLink RX9 28 "RateBookModel" "eventDay" "[I"]
def wsX9_appeal_r2 : List Cond := [Cond.fieldLink RX9 31 "RateBookModel" "eventKind" "[I", Cond.fieldLink RX9 34 "RateBookModel" "eventValue" "[I"]
def wsX9_appeal : List Cond := .code yX9_appeal cX9_appeal 7 (some .int) :: ((wsX9_appeal_r1 ++ wsX9_appeal_r2) ++ wsX90)
def wsX9_strike : List Cond := .code yX9_strike cX9_strike 2 (some .int) :: ([.fieldLink RX9 25 "RateBookModel" "events" "[I", .methodLink RX9 75 yX9_isHouse, .instanceMethod yX9_isHouse, .selects RX9 yX9_isHouse yX9_isHouse, .initialized RX9, .code yX9_isHouse cX9_isHouse 2 (some .boolean), .fieldLink RX9 66 "RateBookModel" "houses" "I", .methodLink RX9 70 yX9_in, .static yX9_in, .code yX9_in cX9_in 3 (some .boolean)] ++ wsX90)
def wsX9_counting : List Cond := .code yX9_counting cX9_counting 7 (some .int) :: ([.fieldLink RX9 25 "RateBookModel" "events" "[I", .fieldLink RX9 31 "RateBookModel" "eventKind" "[I", .fieldLink RX9 28 "RateBookModel" "eventDay" "[I"] ++ wsX90)
def wsX9_sizeOn : List Cond := .code yX9_sizeOn cX9_sizeOn 4 (some .int) :: ([.fieldLink RX9 19 "RateBookModel" "size" "[I", .fieldLink RX9 34 "RateBookModel" "eventValue" "[I", .methodLink RX9 120 yX9_counting, .instanceMethod yX9_counting, .selects RX9 yX9_counting yX9_counting, .initialized RX9, .code yX9_counting cX9_counting 7 (some .int), .fieldLink RX9 25 "RateBookModel" "events" "[I", .fieldLink RX9 31 "RateBookModel" "eventKind" "[I", .fieldLink RX9 28 "RateBookModel" "eventDay" "[I"] ++ wsX90)
def wsX9_useOn : List Cond := .code yX9_useOn cX9_useOn 4 (some .int) :: ([.fieldLink RX9 34 "RateBookModel" "eventValue" "[I", .methodLink RX9 120 yX9_counting, .instanceMethod yX9_counting, .selects RX9 yX9_counting yX9_counting, .initialized RX9, .code yX9_counting cX9_counting 7 (some .int), .fieldLink RX9 25 "RateBookModel" "events" "[I", .fieldLink RX9 31 "RateBookModel" "eventKind" "[I", .fieldLink RX9 28 "RateBookModel" "eventDay" "[I"] ++ wsX90)
def wsX9_listOn : List Cond := .code yX9_listOn cX9_listOn 4 (some .int) :: ([.fieldLink RX9 103 "RateBookModel" "lists" "I", .fieldLink RX9 37 "RateBookModel" "listDay" "[I"] ++ wsX90)
def wsX9_nextCut : List Cond := .code yX9_nextCut cX9_nextCut 6 (some .int) :: ([.fieldLink RX9 25 "RateBookModel" "events" "[I", .fieldLink RX9 31 "RateBookModel" "eventKind" "[I", .fieldLink RX9 28 "RateBookModel" "eventDay" "[I"] ++ wsX90)
def wsX9_worthOn_r1 : List Cond := [Cond.fieldLink RX9 13 "RateBookModel" "kind" "[I", Cond.fieldLink RX9 16 "RateBookModel" "street" "[I", Cond.fieldLink RX9 40 "RateBookModel" "above" "[I", Cond.fieldLink RX9 43 "RateBookModel" "below" "[I", Cond.fieldLink RX9 37 "RateBookModel" "listDay" "[I", Cond.fieldLink RX9 25 "RateBookModel" "events" "[I", Cond.fieldLink RX9 31 "RateBookModel" "eventKind" "[I", Cond.fieldLink RX9 28 "RateBookModel" "eventDay" "[I", Cond.fieldLink RX9 34 "RateBookModel" "eventValue" "[I", Cond.constantLong RX9 134 (1000), Cond.methodLink RX9 123 yX9_listOn, Cond.instanceMethod yX9_listOn, Cond.selects RX9 yX9_listOn yX9_listOn, Cond.initialized RX9, Cond.code yX9_listOn cX9_listOn 4 (some .int), Cond.fieldLink RX9 103 "RateBookModel" "lists" "I", Cond.methodLink RX9 127 yX9_sizeOn, Cond.instanceMethod yX9_sizeOn, Cond.selects RX9 yX9_sizeOn yX9_sizeOn, Cond.code yX9_sizeOn cX9_sizeOn 4 (some .int), Cond.fieldLink RX9 19 "RateBookModel" "size" "[I", Cond.methodLink RX9 120 yX9_counting, Cond.instanceMethod yX9_counting, Cond.selects RX9 yX9_counting yX9_counting]
def wsX9_worthOn_r2 : List Cond := [Cond.code yX9_counting cX9_counting 7 (some .int), Cond.methodLink RX9 131 yX9_nextCut, Cond.instanceMethod yX9_nextCut, Cond.selects RX9 yX9_nextCut yX9_nextCut, Cond.code yX9_nextCut cX9_nextCut 6 (some .int)]
def wsX9_worthOn : List Cond := .code yX9_worthOn cX9_worthOn 9 (some .int) :: ((wsX9_worthOn_r1 ++ wsX9_worthOn_r2) ++ wsX90)
def wsX9_countsOn_r1 : List Cond := [Cond.fieldLink RX9 28 "RateBookModel" "eventDay" "[I", Cond.methodLink RX9 136 yX9_worthOn, Cond.instanceMethod yX9_worthOn, Cond.selects RX9 yX9_worthOn yX9_worthOn, Cond.initialized RX9, Cond.code yX9_worthOn cX9_worthOn 9 (some .int), Cond.fieldLink RX9 13 "RateBookModel" "kind" "[I", Cond.fieldLink RX9 16 "RateBookModel" "street" "[I", Cond.fieldLink RX9 40 "RateBookModel" "above" "[I", Cond.fieldLink RX9 43 "RateBookModel" "below" "[I", Cond.fieldLink RX9 37 "RateBookModel" "listDay" "[I", Cond.fieldLink RX9 25 "RateBookModel" "events" "[I", Cond.fieldLink RX9 31 "RateBookModel" "eventKind" "[I", Cond.fieldLink RX9 34 "RateBookModel" "eventValue" "[I", Cond.constantLong RX9 134 (1000), Cond.methodLink RX9 123 yX9_listOn, Cond.instanceMethod yX9_listOn, Cond.selects RX9 yX9_listOn yX9_listOn, Cond.code yX9_listOn cX9_listOn 4 (some .int), Cond.fieldLink RX9 103 "RateBookModel" "lists" "I", Cond.methodLink RX9 127 yX9_sizeOn, Cond.instanceMethod yX9_sizeOn, Cond.selects RX9 yX9_sizeOn yX9_sizeOn, Cond.code yX9_sizeOn cX9_sizeOn 4 (some .int)]
def wsX9_countsOn_r2 : List Cond := [Cond.fieldLink RX9 19 "RateBookModel" "size" "[I", Cond.methodLink RX9 120 yX9_counting, Cond.instanceMethod yX9_counting, Cond.selects RX9 yX9_counting yX9_counting, Cond.code yX9_counting cX9_counting 7 (some .int), Cond.methodLink RX9 131 yX9_nextCut, Cond.instanceMethod yX9_nextCut, Cond.selects RX9 yX9_nextCut yX9_nextCut, Cond.code yX9_nextCut cX9_nextCut 6 (some .int), Cond.methodLink RX9 139 yX9_useOn, Cond.instanceMethod yX9_useOn, Cond.selects RX9 yX9_useOn yX9_useOn, Cond.code yX9_useOn cX9_useOn 4 (some .int)]
def wsX9_countsOn : List Cond := .code yX9_countsOn cX9_countsOn 4 (some .int) :: ((wsX9_countsOn_r1 ++ wsX9_countsOn_r2) ++ wsX90)
def wsX9_relieved : List Cond := .code yX9_relieved cX9_relieved 1 (some .int) :: ([])
def wsX9_on_r1 : List Cond := [Cond.methodLink RX9 75 yX9_isHouse, Cond.instanceMethod yX9_isHouse, Cond.selects RX9 yX9_isHouse yX9_isHouse, Cond.initialized RX9, Cond.code yX9_isHouse cX9_isHouse 2 (some .boolean), Cond.fieldLink RX9 66 "RateBookModel" "houses" "I", Cond.methodLink RX9 70 yX9_in, Cond.static yX9_in, Cond.code yX9_in cX9_in 3 (some .boolean), Cond.methodLink RX9 100 yX9_isDay, Cond.static yX9_isDay, Cond.code yX9_isDay cX9_isDay 1 (some .boolean), Cond.methodLink RX9 127 yX9_sizeOn, Cond.instanceMethod yX9_sizeOn, Cond.selects RX9 yX9_sizeOn yX9_sizeOn, Cond.code yX9_sizeOn cX9_sizeOn 4 (some .int), Cond.fieldLink RX9 19 "RateBookModel" "size" "[I", Cond.fieldLink RX9 34 "RateBookModel" "eventValue" "[I", Cond.methodLink RX9 120 yX9_counting, Cond.instanceMethod yX9_counting, Cond.selects RX9 yX9_counting yX9_counting, Cond.code yX9_counting cX9_counting 7 (some .int), Cond.fieldLink RX9 25 "RateBookModel" "events" "[I", Cond.fieldLink RX9 31 "RateBookModel" "eventKind" "[I"]
def wsX9_on_r2 : List Cond := [Cond.fieldLink RX9 28 "RateBookModel" "eventDay" "[I", Cond.methodLink RX9 139 yX9_useOn, Cond.instanceMethod yX9_useOn, Cond.selects RX9 yX9_useOn yX9_useOn, Cond.code yX9_useOn cX9_useOn 4 (some .int), Cond.methodLink RX9 136 yX9_worthOn, Cond.instanceMethod yX9_worthOn, Cond.selects RX9 yX9_worthOn yX9_worthOn, Cond.code yX9_worthOn cX9_worthOn 9 (some .int), Cond.fieldLink RX9 13 "RateBookModel" "kind" "[I", Cond.fieldLink RX9 16 "RateBookModel" "street" "[I", Cond.fieldLink RX9 40 "RateBookModel" "above" "[I", Cond.fieldLink RX9 43 "RateBookModel" "below" "[I", Cond.fieldLink RX9 37 "RateBookModel" "listDay" "[I", Cond.constantLong RX9 134 (1000), Cond.methodLink RX9 123 yX9_listOn, Cond.instanceMethod yX9_listOn, Cond.selects RX9 yX9_listOn yX9_listOn, Cond.code yX9_listOn cX9_listOn 4 (some .int), Cond.fieldLink RX9 103 "RateBookModel" "lists" "I", Cond.methodLink RX9 131 yX9_nextCut, Cond.instanceMethod yX9_nextCut, Cond.selects RX9 yX9_nextCut yX9_nextCut, Cond.code yX9_nextCut cX9_nextCut 6 (some .int)]
def wsX9_on_r3 : List Cond := [Cond.methodLink RX9 142 yX9_countsOn, Cond.instanceMethod yX9_countsOn, Cond.selects RX9 yX9_countsOn yX9_countsOn, Cond.code yX9_countsOn cX9_countsOn 4 (some .int), Cond.methodLink RX9 145 yX9_relieved, Cond.static yX9_relieved, Cond.code yX9_relieved cX9_relieved 1 (some .int)]
def wsX9_on : List Cond := .code yX9_on cX9_on 4 (some .int) :: ((wsX9_on_r1 ++ (wsX9_on_r2 ++ wsX9_on_r3)) ++ wsX90)
def wsX9_isYear : List Cond := .code yX9_isYear cX9_isYear 1 (some .boolean) :: ([.methodLink RX9 70 yX9_in, .static yX9_in, .initialized RX9, .code yX9_in cX9_in 3 (some .boolean)])
def wsX9_yearOf_r1 : List Cond := [Cond.methodLink RX9 142 yX9_countsOn, Cond.instanceMethod yX9_countsOn, Cond.selects RX9 yX9_countsOn yX9_countsOn, Cond.initialized RX9, Cond.code yX9_countsOn cX9_countsOn 4 (some .int), Cond.fieldLink RX9 28 "RateBookModel" "eventDay" "[I", Cond.methodLink RX9 136 yX9_worthOn, Cond.instanceMethod yX9_worthOn, Cond.selects RX9 yX9_worthOn yX9_worthOn, Cond.code yX9_worthOn cX9_worthOn 9 (some .int), Cond.fieldLink RX9 13 "RateBookModel" "kind" "[I", Cond.fieldLink RX9 16 "RateBookModel" "street" "[I", Cond.fieldLink RX9 40 "RateBookModel" "above" "[I", Cond.fieldLink RX9 43 "RateBookModel" "below" "[I", Cond.fieldLink RX9 37 "RateBookModel" "listDay" "[I", Cond.fieldLink RX9 25 "RateBookModel" "events" "[I", Cond.fieldLink RX9 31 "RateBookModel" "eventKind" "[I", Cond.fieldLink RX9 34 "RateBookModel" "eventValue" "[I", Cond.constantLong RX9 134 (1000), Cond.methodLink RX9 123 yX9_listOn, Cond.instanceMethod yX9_listOn, Cond.selects RX9 yX9_listOn yX9_listOn, Cond.code yX9_listOn cX9_listOn 4 (some .int), Cond.fieldLink RX9 103 "RateBookModel" "lists" "I"]
def wsX9_yearOf_r2 : List Cond := [Cond.methodLink RX9 127 yX9_sizeOn, Cond.instanceMethod yX9_sizeOn, Cond.selects RX9 yX9_sizeOn yX9_sizeOn, Cond.code yX9_sizeOn cX9_sizeOn 4 (some .int), Cond.fieldLink RX9 19 "RateBookModel" "size" "[I", Cond.methodLink RX9 120 yX9_counting, Cond.instanceMethod yX9_counting, Cond.selects RX9 yX9_counting yX9_counting, Cond.code yX9_counting cX9_counting 7 (some .int), Cond.methodLink RX9 131 yX9_nextCut, Cond.instanceMethod yX9_nextCut, Cond.selects RX9 yX9_nextCut yX9_nextCut, Cond.code yX9_nextCut cX9_nextCut 6 (some .int), Cond.methodLink RX9 139 yX9_useOn, Cond.instanceMethod yX9_useOn, Cond.selects RX9 yX9_useOn yX9_useOn, Cond.code yX9_useOn cX9_useOn 4 (some .int), Cond.methodLink RX9 145 yX9_relieved, Cond.static yX9_relieved, Cond.code yX9_relieved cX9_relieved 1 (some .int)]
def wsX9_yearOf : List Cond := .code yX9_yearOf cX9_yearOf 6 (some .long) :: ((wsX9_yearOf_r1 ++ wsX9_yearOf_r2) ++ wsX90)
def wsX9_year_r1 : List Cond := [Cond.constantLong RX9 155 (-1), Cond.methodLink RX9 75 yX9_isHouse, Cond.instanceMethod yX9_isHouse, Cond.selects RX9 yX9_isHouse yX9_isHouse, Cond.initialized RX9, Cond.code yX9_isHouse cX9_isHouse 2 (some .boolean), Cond.fieldLink RX9 66 "RateBookModel" "houses" "I", Cond.methodLink RX9 70 yX9_in, Cond.static yX9_in, Cond.code yX9_in cX9_in 3 (some .boolean), Cond.methodLink RX9 148 yX9_isYear, Cond.static yX9_isYear, Cond.code yX9_isYear cX9_isYear 1 (some .boolean), Cond.methodLink RX9 151 yX9_yearOf, Cond.instanceMethod yX9_yearOf, Cond.selects RX9 yX9_yearOf yX9_yearOf, Cond.code yX9_yearOf cX9_yearOf 6 (some .long), Cond.methodLink RX9 142 yX9_countsOn, Cond.instanceMethod yX9_countsOn, Cond.selects RX9 yX9_countsOn yX9_countsOn, Cond.code yX9_countsOn cX9_countsOn 4 (some .int), Cond.fieldLink RX9 28 "RateBookModel" "eventDay" "[I", Cond.methodLink RX9 136 yX9_worthOn, Cond.instanceMethod yX9_worthOn]
def wsX9_year_r2 : List Cond := [Cond.selects RX9 yX9_worthOn yX9_worthOn, Cond.code yX9_worthOn cX9_worthOn 9 (some .int), Cond.fieldLink RX9 13 "RateBookModel" "kind" "[I", Cond.fieldLink RX9 16 "RateBookModel" "street" "[I", Cond.fieldLink RX9 40 "RateBookModel" "above" "[I", Cond.fieldLink RX9 43 "RateBookModel" "below" "[I", Cond.fieldLink RX9 37 "RateBookModel" "listDay" "[I", Cond.fieldLink RX9 25 "RateBookModel" "events" "[I", Cond.fieldLink RX9 31 "RateBookModel" "eventKind" "[I", Cond.fieldLink RX9 34 "RateBookModel" "eventValue" "[I", Cond.constantLong RX9 134 (1000), Cond.methodLink RX9 123 yX9_listOn, Cond.instanceMethod yX9_listOn, Cond.selects RX9 yX9_listOn yX9_listOn, Cond.code yX9_listOn cX9_listOn 4 (some .int), Cond.fieldLink RX9 103 "RateBookModel" "lists" "I", Cond.methodLink RX9 127 yX9_sizeOn, Cond.instanceMethod yX9_sizeOn, Cond.selects RX9 yX9_sizeOn yX9_sizeOn, Cond.code yX9_sizeOn cX9_sizeOn 4 (some .int), Cond.fieldLink RX9 19 "RateBookModel" "size" "[I", Cond.methodLink RX9 120 yX9_counting, Cond.instanceMethod yX9_counting, Cond.selects RX9 yX9_counting yX9_counting]
def wsX9_year_r3 : List Cond := [Cond.code yX9_counting cX9_counting 7 (some .int), Cond.methodLink RX9 131 yX9_nextCut, Cond.instanceMethod yX9_nextCut, Cond.selects RX9 yX9_nextCut yX9_nextCut, Cond.code yX9_nextCut cX9_nextCut 6 (some .int), Cond.methodLink RX9 139 yX9_useOn, Cond.instanceMethod yX9_useOn, Cond.selects RX9 yX9_useOn yX9_useOn, Cond.code yX9_useOn cX9_useOn 4 (some .int), Cond.methodLink RX9 145 yX9_relieved, Cond.static yX9_relieved, Cond.code yX9_relieved cX9_relieved 1 (some .int)]
def wsX9_year : List Cond := .code yX9_year cX9_year 3 (some .long) :: ((wsX9_year_r1 ++ (wsX9_year_r2 ++ wsX9_year_r3)) ++ wsX90)
def wsX9_bill_r1 : List Cond := [Cond.constantLong RX9 157 (365000), Cond.methodLink RX9 75 yX9_isHouse, Cond.instanceMethod yX9_isHouse, Cond.selects RX9 yX9_isHouse yX9_isHouse, Cond.initialized RX9, Cond.code yX9_isHouse cX9_isHouse 2 (some .boolean), Cond.fieldLink RX9 66 "RateBookModel" "houses" "I", Cond.methodLink RX9 70 yX9_in, Cond.static yX9_in, Cond.code yX9_in cX9_in 3 (some .boolean), Cond.methodLink RX9 148 yX9_isYear, Cond.static yX9_isYear, Cond.code yX9_isYear cX9_isYear 1 (some .boolean), Cond.methodLink RX9 151 yX9_yearOf, Cond.instanceMethod yX9_yearOf, Cond.selects RX9 yX9_yearOf yX9_yearOf, Cond.code yX9_yearOf cX9_yearOf 6 (some .long), Cond.methodLink RX9 142 yX9_countsOn, Cond.instanceMethod yX9_countsOn, Cond.selects RX9 yX9_countsOn yX9_countsOn, Cond.code yX9_countsOn cX9_countsOn 4 (some .int), Cond.fieldLink RX9 28 "RateBookModel" "eventDay" "[I", Cond.methodLink RX9 136 yX9_worthOn, Cond.instanceMethod yX9_worthOn]
def wsX9_bill_r2 : List Cond := [Cond.selects RX9 yX9_worthOn yX9_worthOn, Cond.code yX9_worthOn cX9_worthOn 9 (some .int), Cond.fieldLink RX9 13 "RateBookModel" "kind" "[I", Cond.fieldLink RX9 16 "RateBookModel" "street" "[I", Cond.fieldLink RX9 40 "RateBookModel" "above" "[I", Cond.fieldLink RX9 43 "RateBookModel" "below" "[I", Cond.fieldLink RX9 37 "RateBookModel" "listDay" "[I", Cond.fieldLink RX9 25 "RateBookModel" "events" "[I", Cond.fieldLink RX9 31 "RateBookModel" "eventKind" "[I", Cond.fieldLink RX9 34 "RateBookModel" "eventValue" "[I", Cond.constantLong RX9 134 (1000), Cond.methodLink RX9 123 yX9_listOn, Cond.instanceMethod yX9_listOn, Cond.selects RX9 yX9_listOn yX9_listOn, Cond.code yX9_listOn cX9_listOn 4 (some .int), Cond.fieldLink RX9 103 "RateBookModel" "lists" "I", Cond.methodLink RX9 127 yX9_sizeOn, Cond.instanceMethod yX9_sizeOn, Cond.selects RX9 yX9_sizeOn yX9_sizeOn, Cond.code yX9_sizeOn cX9_sizeOn 4 (some .int), Cond.fieldLink RX9 19 "RateBookModel" "size" "[I", Cond.methodLink RX9 120 yX9_counting, Cond.instanceMethod yX9_counting, Cond.selects RX9 yX9_counting yX9_counting]
def wsX9_bill_r3 : List Cond := [Cond.code yX9_counting cX9_counting 7 (some .int), Cond.methodLink RX9 131 yX9_nextCut, Cond.instanceMethod yX9_nextCut, Cond.selects RX9 yX9_nextCut yX9_nextCut, Cond.code yX9_nextCut cX9_nextCut 6 (some .int), Cond.methodLink RX9 139 yX9_useOn, Cond.instanceMethod yX9_useOn, Cond.selects RX9 yX9_useOn yX9_useOn, Cond.code yX9_useOn cX9_useOn 4 (some .int), Cond.methodLink RX9 145 yX9_relieved, Cond.static yX9_relieved, Cond.code yX9_relieved cX9_relieved 1 (some .int)]
def wsX9_bill : List Cond := .code yX9_bill cX9_bill 4 (some .int) :: ((wsX9_bill_r1 ++ (wsX9_bill_r2 ++ wsX9_bill_r3)) ++ wsX90)
def wsX9_least_r1 : List Cond := [Cond.fieldLink RX9 66 "RateBookModel" "houses" "I", Cond.fieldLink RX9 62 "RateBookModel" "years" "[J", Cond.constantLong RX9 157 (365000), Cond.methodLink RX9 151 yX9_yearOf, Cond.instanceMethod yX9_yearOf, Cond.selects RX9 yX9_yearOf yX9_yearOf, Cond.initialized RX9, Cond.code yX9_yearOf cX9_yearOf 6 (some .long), Cond.methodLink RX9 142 yX9_countsOn, Cond.instanceMethod yX9_countsOn, Cond.selects RX9 yX9_countsOn yX9_countsOn, Cond.code yX9_countsOn cX9_countsOn 4 (some .int), Cond.fieldLink RX9 28 "RateBookModel" "eventDay" "[I", Cond.methodLink RX9 136 yX9_worthOn, Cond.instanceMethod yX9_worthOn, Cond.selects RX9 yX9_worthOn yX9_worthOn, Cond.code yX9_worthOn cX9_worthOn 9 (some .int), Cond.fieldLink RX9 13 "RateBookModel" "kind" "[I", Cond.fieldLink RX9 16 "RateBookModel" "street" "[I", Cond.fieldLink RX9 40 "RateBookModel" "above" "[I", Cond.fieldLink RX9 43 "RateBookModel" "below" "[I", Cond.fieldLink RX9 37 "RateBookModel" "listDay" "[I", Cond.fieldLink RX9 25 "RateBookModel" "events" "[I", Cond.fieldLink RX9 31 "RateBookModel" "eventKind" "[I"]
def wsX9_least_r2 : List Cond := [Cond.fieldLink RX9 34 "RateBookModel" "eventValue" "[I", Cond.constantLong RX9 134 (1000), Cond.methodLink RX9 123 yX9_listOn, Cond.instanceMethod yX9_listOn, Cond.selects RX9 yX9_listOn yX9_listOn, Cond.code yX9_listOn cX9_listOn 4 (some .int), Cond.fieldLink RX9 103 "RateBookModel" "lists" "I", Cond.methodLink RX9 127 yX9_sizeOn, Cond.instanceMethod yX9_sizeOn, Cond.selects RX9 yX9_sizeOn yX9_sizeOn, Cond.code yX9_sizeOn cX9_sizeOn 4 (some .int), Cond.fieldLink RX9 19 "RateBookModel" "size" "[I", Cond.methodLink RX9 120 yX9_counting, Cond.instanceMethod yX9_counting, Cond.selects RX9 yX9_counting yX9_counting, Cond.code yX9_counting cX9_counting 7 (some .int), Cond.methodLink RX9 131 yX9_nextCut, Cond.instanceMethod yX9_nextCut, Cond.selects RX9 yX9_nextCut yX9_nextCut, Cond.code yX9_nextCut cX9_nextCut 6 (some .int), Cond.methodLink RX9 139 yX9_useOn, Cond.instanceMethod yX9_useOn, Cond.selects RX9 yX9_useOn yX9_useOn, Cond.code yX9_useOn cX9_useOn 4 (some .int)]
def wsX9_least_r3 : List Cond := [Cond.methodLink RX9 145 yX9_relieved, Cond.static yX9_relieved, Cond.code yX9_relieved cX9_relieved 1 (some .int)]
def wsX9_least : List Cond := .code yX9_least cX9_least 7 (some .int) :: ((wsX9_least_r1 ++ (wsX9_least_r2 ++ wsX9_least_r3)) ++ wsX90)
def wsX9_poundage_r1 : List Cond := [Cond.constant RX9 159 (100000000), Cond.methodLink RX9 148 yX9_isYear, Cond.static yX9_isYear, Cond.initialized RX9, Cond.code yX9_isYear cX9_isYear 1 (some .boolean), Cond.methodLink RX9 70 yX9_in, Cond.static yX9_in, Cond.code yX9_in cX9_in 3 (some .boolean), Cond.methodLink RX9 160 yX9_least, Cond.instanceMethod yX9_least, Cond.selects RX9 yX9_least yX9_least, Cond.code yX9_least cX9_least 7 (some .int), Cond.fieldLink RX9 66 "RateBookModel" "houses" "I", Cond.fieldLink RX9 62 "RateBookModel" "years" "[J", Cond.constantLong RX9 157 (365000), Cond.methodLink RX9 151 yX9_yearOf, Cond.instanceMethod yX9_yearOf, Cond.selects RX9 yX9_yearOf yX9_yearOf, Cond.code yX9_yearOf cX9_yearOf 6 (some .long), Cond.methodLink RX9 142 yX9_countsOn, Cond.instanceMethod yX9_countsOn, Cond.selects RX9 yX9_countsOn yX9_countsOn, Cond.code yX9_countsOn cX9_countsOn 4 (some .int), Cond.fieldLink RX9 28 "RateBookModel" "eventDay" "[I"]
def wsX9_poundage_r2 : List Cond := [Cond.methodLink RX9 136 yX9_worthOn, Cond.instanceMethod yX9_worthOn, Cond.selects RX9 yX9_worthOn yX9_worthOn, Cond.code yX9_worthOn cX9_worthOn 9 (some .int), Cond.fieldLink RX9 13 "RateBookModel" "kind" "[I", Cond.fieldLink RX9 16 "RateBookModel" "street" "[I", Cond.fieldLink RX9 40 "RateBookModel" "above" "[I", Cond.fieldLink RX9 43 "RateBookModel" "below" "[I", Cond.fieldLink RX9 37 "RateBookModel" "listDay" "[I", Cond.fieldLink RX9 25 "RateBookModel" "events" "[I", Cond.fieldLink RX9 31 "RateBookModel" "eventKind" "[I", Cond.fieldLink RX9 34 "RateBookModel" "eventValue" "[I", Cond.constantLong RX9 134 (1000), Cond.methodLink RX9 123 yX9_listOn, Cond.instanceMethod yX9_listOn, Cond.selects RX9 yX9_listOn yX9_listOn, Cond.code yX9_listOn cX9_listOn 4 (some .int), Cond.fieldLink RX9 103 "RateBookModel" "lists" "I", Cond.methodLink RX9 127 yX9_sizeOn, Cond.instanceMethod yX9_sizeOn, Cond.selects RX9 yX9_sizeOn yX9_sizeOn, Cond.code yX9_sizeOn cX9_sizeOn 4 (some .int), Cond.fieldLink RX9 19 "RateBookModel" "size" "[I", Cond.methodLink RX9 120 yX9_counting]
def wsX9_poundage_r3 : List Cond := [Cond.instanceMethod yX9_counting, Cond.selects RX9 yX9_counting yX9_counting, Cond.code yX9_counting cX9_counting 7 (some .int), Cond.methodLink RX9 131 yX9_nextCut, Cond.instanceMethod yX9_nextCut, Cond.selects RX9 yX9_nextCut yX9_nextCut, Cond.code yX9_nextCut cX9_nextCut 6 (some .int), Cond.methodLink RX9 139 yX9_useOn, Cond.instanceMethod yX9_useOn, Cond.selects RX9 yX9_useOn yX9_useOn, Cond.code yX9_useOn cX9_useOn 4 (some .int), Cond.methodLink RX9 145 yX9_relieved, Cond.static yX9_relieved, Cond.code yX9_relieved cX9_relieved 1 (some .int)]
def wsX9_poundage : List Cond := .code yX9_poundage cX9_poundage 3 (some .int) :: ((wsX9_poundage_r1 ++ (wsX9_poundage_r2 ++ wsX9_poundage_r3)) ++ wsX90)
def wsX9_struck_r1 : List Cond := [Cond.constant RX9 159 (100000000), Cond.fieldLink RX9 46 "RateBookModel" "isStruck" "[Z", Cond.fieldLink RX9 50 "RateBookModel" "poundages" "[I", Cond.fieldLink RX9 53 "RateBookModel" "needed" "[I", Cond.fieldLink RX9 66 "RateBookModel" "houses" "I", Cond.fieldLink RX9 56 "RateBookModel" "billed" "[I", Cond.fieldLink RX9 62 "RateBookModel" "years" "[J", Cond.constantLong RX9 157 (365000), Cond.methodLink RX9 148 yX9_isYear, Cond.static yX9_isYear, Cond.initialized RX9, Cond.code yX9_isYear cX9_isYear 1 (some .boolean), Cond.methodLink RX9 70 yX9_in, Cond.static yX9_in, Cond.code yX9_in cX9_in 3 (some .boolean), Cond.methodLink RX9 160 yX9_least, Cond.instanceMethod yX9_least, Cond.selects RX9 yX9_least yX9_least, Cond.code yX9_least cX9_least 7 (some .int), Cond.methodLink RX9 151 yX9_yearOf, Cond.instanceMethod yX9_yearOf, Cond.selects RX9 yX9_yearOf yX9_yearOf, Cond.code yX9_yearOf cX9_yearOf 6 (some .long), Cond.methodLink RX9 142 yX9_countsOn]
def wsX9_struck_r2 : List Cond := [Cond.instanceMethod yX9_countsOn, Cond.selects RX9 yX9_countsOn yX9_countsOn, Cond.code yX9_countsOn cX9_countsOn 4 (some .int), Cond.fieldLink RX9 28 "RateBookModel" "eventDay" "[I", Cond.methodLink RX9 136 yX9_worthOn, Cond.instanceMethod yX9_worthOn, Cond.selects RX9 yX9_worthOn yX9_worthOn, Cond.code yX9_worthOn cX9_worthOn 9 (some .int), Cond.fieldLink RX9 13 "RateBookModel" "kind" "[I", Cond.fieldLink RX9 16 "RateBookModel" "street" "[I", Cond.fieldLink RX9 40 "RateBookModel" "above" "[I", Cond.fieldLink RX9 43 "RateBookModel" "below" "[I", Cond.fieldLink RX9 37 "RateBookModel" "listDay" "[I", Cond.fieldLink RX9 25 "RateBookModel" "events" "[I", Cond.fieldLink RX9 31 "RateBookModel" "eventKind" "[I", Cond.fieldLink RX9 34 "RateBookModel" "eventValue" "[I", Cond.constantLong RX9 134 (1000), Cond.methodLink RX9 123 yX9_listOn, Cond.instanceMethod yX9_listOn, Cond.selects RX9 yX9_listOn yX9_listOn, Cond.code yX9_listOn cX9_listOn 4 (some .int), Cond.fieldLink RX9 103 "RateBookModel" "lists" "I", Cond.methodLink RX9 127 yX9_sizeOn, Cond.instanceMethod yX9_sizeOn]
def wsX9_struck_r3 : List Cond := [Cond.selects RX9 yX9_sizeOn yX9_sizeOn, Cond.code yX9_sizeOn cX9_sizeOn 4 (some .int), Cond.fieldLink RX9 19 "RateBookModel" "size" "[I", Cond.methodLink RX9 120 yX9_counting, Cond.instanceMethod yX9_counting, Cond.selects RX9 yX9_counting yX9_counting, Cond.code yX9_counting cX9_counting 7 (some .int), Cond.methodLink RX9 131 yX9_nextCut, Cond.instanceMethod yX9_nextCut, Cond.selects RX9 yX9_nextCut yX9_nextCut, Cond.code yX9_nextCut cX9_nextCut 6 (some .int), Cond.methodLink RX9 139 yX9_useOn, Cond.instanceMethod yX9_useOn, Cond.selects RX9 yX9_useOn yX9_useOn, Cond.code yX9_useOn cX9_useOn 4 (some .int), Cond.methodLink RX9 145 yX9_relieved, Cond.static yX9_relieved, Cond.code yX9_relieved cX9_relieved 1 (some .int)]
def wsX9_struck : List Cond := .code yX9_struck cX9_struck 5 (some .int) :: ((wsX9_struck_r1 ++ (wsX9_struck_r2 ++ wsX9_struck_r3)) ++ wsX90)
def wsX9_pay : List Cond := .code yX9_pay cX9_pay 4 (some .int) :: ([.constant RX9 163 (10000000), .fieldLink RX9 59 "RateBookModel" "payments" "[I", .methodLink RX9 75 yX9_isHouse, .instanceMethod yX9_isHouse, .selects RX9 yX9_isHouse yX9_isHouse, .initialized RX9, .code yX9_isHouse cX9_isHouse 2 (some .boolean), .fieldLink RX9 66 "RateBookModel" "houses" "I", .methodLink RX9 70 yX9_in, .static yX9_in, .code yX9_in cX9_in 3 (some .boolean), .methodLink RX9 148 yX9_isYear, .static yX9_isYear, .code yX9_isYear cX9_isYear 1 (some .boolean)] ++ wsX90)
def wsX9_paid : List Cond := .code yX9_paid cX9_paid 4 (some .int) :: ([.fieldLink RX9 56 "RateBookModel" "billed" "[I", .fieldLink RX9 59 "RateBookModel" "payments" "[I", .methodLink RX9 75 yX9_isHouse, .instanceMethod yX9_isHouse, .selects RX9 yX9_isHouse yX9_isHouse, .initialized RX9, .code yX9_isHouse cX9_isHouse 2 (some .boolean), .fieldLink RX9 66 "RateBookModel" "houses" "I", .methodLink RX9 70 yX9_in, .static yX9_in, .code yX9_in cX9_in 3 (some .boolean), .methodLink RX9 148 yX9_isYear, .static yX9_isYear, .code yX9_isYear cX9_isYear 1 (some .boolean)] ++ wsX90)
def wsX9_owed : List Cond := .code yX9_owed cX9_owed 6 (some .int) :: ([.fieldLink RX9 56 "RateBookModel" "billed" "[I", .fieldLink RX9 59 "RateBookModel" "payments" "[I", .methodLink RX9 75 yX9_isHouse, .instanceMethod yX9_isHouse, .selects RX9 yX9_isHouse yX9_isHouse, .initialized RX9, .code yX9_isHouse cX9_isHouse 2 (some .boolean), .fieldLink RX9 66 "RateBookModel" "houses" "I", .methodLink RX9 70 yX9_in, .static yX9_in, .code yX9_in cX9_in 3 (some .boolean)] ++ wsX90)
def wsX9_ward : List Cond := .code yX9_ward cX9_ward 8 (some .int) :: ([.fieldLink RX9 46 "RateBookModel" "isStruck" "[Z", .fieldLink RX9 50 "RateBookModel" "poundages" "[I", .fieldLink RX9 53 "RateBookModel" "needed" "[I", .fieldLink RX9 66 "RateBookModel" "houses" "I", .fieldLink RX9 7 "RateBookModel" "ward" "[I", .fieldLink RX9 59 "RateBookModel" "payments" "[I", .fieldLink RX9 56 "RateBookModel" "billed" "[I", .methodLink RX9 70 yX9_in, .static yX9_in, .initialized RX9, .code yX9_in cX9_in 3 (some .boolean), .methodLink RX9 148 yX9_isYear, .static yX9_isYear, .code yX9_isYear cX9_isYear 1 (some .boolean)] ++ wsX90)
def wsX9_count : List Cond := .code yX9_count cX9_count 6 (some .int) :: ([.fieldLink RX9 66 "RateBookModel" "houses" "I", .fieldLink RX9 25 "RateBookModel" "events" "[I", .fieldLink RX9 22 "RateBookModel" "rent" "[I", .fieldLink RX9 46 "RateBookModel" "isStruck" "[Z", .fieldLink RX9 103 "RateBookModel" "lists" "I"] ++ wsX90)
def wsJ9_max_7cf53 : List Cond := .code yJ9_max_7cf53 cJ9_max_7cf53 2 (some .int) :: ([])
def wsL_law_r1 : List Cond := [Cond.classLink RL 7 RX8, Cond.instantiable RX8 4, Cond.initialized RX8, Cond.classLink RL 10 RX9, Cond.instantiable RX9 22, Cond.initialized RX9, Cond.methodLink RL 9 yX8_init, Cond.instanceMethod yX8_init, Cond.code yX8_init cX8_init 2 none, Cond.methodLink RX8 3 objectInit, Cond.instanceMethod objectInit, Cond.code objectInit ⟨#[0xb1]⟩ 1 none, Cond.classLink RX8 9 RX5, Cond.instantiable RX5 2, Cond.initialized RX5, Cond.fieldLink RX8 12 "RateBook" "town" "LRateBook$Town;", Cond.classLink RX8 16 RX3, Cond.instantiable RX3 2, Cond.initialized RX3, Cond.fieldLink RX8 19 "RateBook" "lists" "LRateBook$Lists;", Cond.arrayClass .long, Cond.fieldLink RX8 23 "RateBook" "yearSums" "[J", Cond.classLink RX8 27 RX7, Cond.fieldLink RX8 29 "RateBook" "books" "[LRateBook$YearBook;"]
def wsL_law_r2 : List Cond := [Cond.instantiable RX7 5, Cond.initialized RX7, Cond.methodLink RX8 11 yX5_init, Cond.instanceMethod yX5_init, Cond.code yX5_init cX5_init 1 none, Cond.methodLink RX5 3 objectInit, Cond.classLink RX5 9 RX2, Cond.fieldLink RX5 11 "RateBook$Town" "houses" "[LRateBook$House;", Cond.methodLink RX8 18 yX3_init, Cond.instanceMethod yX3_init, Cond.code yX3_init cX3_init 1 none, Cond.methodLink RX3 3 objectInit, Cond.classLink RX3 9 RX4, Cond.fieldLink RX3 11 "RateBook$Lists" "byDay" "[LRateBook$RateList;", Cond.methodLink RX8 33 yX7_init, Cond.instanceMethod yX7_init, Cond.code yX7_init cX7_init 2 none, Cond.methodLink RX7 3 objectInit, Cond.arrayClass .int, Cond.fieldLink RX7 9 "RateBook$YearBook" "billed" "[I", Cond.fieldLink RX7 15 "RateBook$YearBook" "payments" "[I", Cond.methodLink RL 12 yX9_init, Cond.instanceMethod yX9_init, Cond.code yX9_init cX9_init 1 none]
def wsL_law_r3 : List Cond := [Cond.methodLink RX9 1 objectInit, Cond.fieldLink RX9 7 "RateBookModel" "ward" "[I", Cond.fieldLink RX9 13 "RateBookModel" "kind" "[I", Cond.fieldLink RX9 16 "RateBookModel" "street" "[I", Cond.fieldLink RX9 19 "RateBookModel" "size" "[I", Cond.fieldLink RX9 22 "RateBookModel" "rent" "[I", Cond.fieldLink RX9 25 "RateBookModel" "events" "[I", Cond.fieldLink RX9 28 "RateBookModel" "eventDay" "[I", Cond.fieldLink RX9 31 "RateBookModel" "eventKind" "[I", Cond.fieldLink RX9 34 "RateBookModel" "eventValue" "[I", Cond.fieldLink RX9 37 "RateBookModel" "listDay" "[I", Cond.fieldLink RX9 40 "RateBookModel" "above" "[I", Cond.fieldLink RX9 43 "RateBookModel" "below" "[I", Cond.arrayClass .boolean, Cond.fieldLink RX9 46 "RateBookModel" "isStruck" "[Z", Cond.fieldLink RX9 50 "RateBookModel" "poundages" "[I", Cond.fieldLink RX9 53 "RateBookModel" "needed" "[I", Cond.fieldLink RX9 56 "RateBookModel" "billed" "[I", Cond.fieldLink RX9 59 "RateBookModel" "payments" "[I", Cond.fieldLink RX9 62 "RateBookModel" "years" "[J", Cond.methodLink RL 13 yX8_house, Cond.instanceMethod yX8_house, Cond.selects RX8 yX8_house yX8_house, Cond.code yX8_house cX8_house 6 (some .int)]
def wsL_law_r4 : List Cond := [Cond.constant RX8 42 (100000), Cond.methodLink RX8 34 yX8_isOf, Cond.static yX8_isOf, Cond.code yX8_isOf cX8_isOf 2 (some .boolean), Cond.methodLink RX8 38 yX8_isWithin, Cond.static yX8_isWithin, Cond.code yX8_isWithin cX8_isWithin 3 (some .boolean), Cond.methodLink RX8 43 yX5_add, Cond.instanceMethod yX5_add, Cond.selects RX5 yX5_add yX5_add, Cond.code yX5_add cX5_add 7 (some .int), Cond.fieldLink RX5 17 "RateBook$Town" "size" "I", Cond.instantiable RX2 7, Cond.initialized RX2, Cond.methodLink RX5 21 yX2_init, Cond.instanceMethod yX2_init, Cond.code yX2_init cX2_init 7 none, Cond.methodLink RX2 3 objectInit, Cond.fieldLink RX2 9 "RateBook$House" "number" "I", Cond.fieldLink RX2 15 "RateBook$House" "ward" "I", Cond.fieldLink RX2 18 "RateBook$House" "kind" "I", Cond.fieldLink RX2 21 "RateBook$House" "street" "I", Cond.fieldLink RX2 24 "RateBook$House" "size" "I", Cond.fieldLink RX2 27 "RateBook$House" "rent" "I"]
def wsL_law_r5 : List Cond := [Cond.classLink RX2 30 RX1, Cond.instantiable RX1 2, Cond.initialized RX1, Cond.fieldLink RX2 33 "RateBook$House" "events" "LRateBook$Events;", Cond.methodLink RX2 32 yX1_init, Cond.instanceMethod yX1_init, Cond.code yX1_init cX1_init 1 none, Cond.methodLink RX1 3 objectInit, Cond.classLink RX1 9 RX0, Cond.fieldLink RX1 11 "RateBook$Events" "byDay" "[LRateBook$Event;", Cond.methodLink RL 17 yX9_house, Cond.instanceMethod yX9_house, Cond.selects RX9 yX9_house yX9_house, Cond.code yX9_house cX9_house 7 (some .int), Cond.constant RX9 74 (100000), Cond.fieldLink RX9 66 "RateBookModel" "houses" "I", Cond.methodLink RX9 70 yX9_in, Cond.static yX9_in, Cond.code yX9_in cX9_in 3 (some .boolean), Cond.methodLink RL 18 yX8_rent, Cond.instanceMethod yX8_rent, Cond.selects RX8 yX8_rent yX8_rent, Cond.code yX8_rent cX8_rent 5 (some .int), Cond.fieldLink RX8 51 "RateBook$House" "rent" "I"]
def wsL_law_r6 : List Cond := [Cond.methodLink RX8 47 yX5_at, Cond.instanceMethod yX5_at, Cond.selects RX5 yX5_at yX5_at, Cond.code yX5_at cX5_at 2 (some (.object "RateBook$House")), Cond.methodLink RL 22 yX9_rent, Cond.instanceMethod yX9_rent, Cond.selects RX9 yX9_rent yX9_rent, Cond.code yX9_rent cX9_rent 4 (some .int), Cond.methodLink RX9 75 yX9_isHouse, Cond.instanceMethod yX9_isHouse, Cond.selects RX9 yX9_isHouse yX9_isHouse, Cond.code yX9_isHouse cX9_isHouse 2 (some .boolean), Cond.methodLink RL 23 yX8_unit, Cond.instanceMethod yX8_unit, Cond.selects RX8 yX8_unit yX8_unit, Cond.code yX8_unit cX8_unit 5 (some .int), Cond.fieldLink RX8 61 "RateBook$Unit" "above" "I", Cond.fieldLink RX8 66 "RateBook$Unit" "below" "I", Cond.fieldLink RX8 69 "RateBook$Unit" "rents" "I", Cond.fieldLink RX8 72 "RateBook$Unit" "house" "I", Cond.methodLink RX8 57 yX5_unitOf, Cond.instanceMethod yX5_unitOf, Cond.selects RX5 yX5_unitOf yX5_unitOf, Cond.code yX5_unitOf cX5_unitOf 7 (some (.object "RateBook$Unit"))]
def wsL_law_r7 : List Cond := [Cond.classLink RX5 51 RX6, Cond.instantiable RX6 4, Cond.initialized RX6, Cond.fieldLink RX5 40 "RateBook$House" "rent" "I", Cond.fieldLink RX5 56 "RateBook$House" "size" "I", Cond.fieldLink RX5 57 "RateBook$House" "number" "I", Cond.methodLink RX5 43 yX5_rentsOf, Cond.instanceMethod yX5_rentsOf, Cond.selects RX5 yX5_rentsOf yX5_rentsOf, Cond.code yX5_rentsOf cX5_rentsOf 7 (some .int), Cond.methodLink RX5 60 yX2_tells, Cond.instanceMethod yX2_tells, Cond.selects RX2 yX2_tells yX2_tells, Cond.code yX2_tells cX2_tells 4 (some .boolean), Cond.methodLink RX5 47 yX5_middleOf, Cond.instanceMethod yX5_middleOf, Cond.selects RX5 yX5_middleOf yX5_middleOf, Cond.code yX5_middleOf cX5_middleOf 7 (some (.object "RateBook$House")), Cond.methodLink RX5 64 yX5_lesserThan, Cond.instanceMethod yX5_lesserThan, Cond.selects RX5 yX5_lesserThan yX5_lesserThan, Cond.code yX5_lesserThan cX5_lesserThan 8 (some .int), Cond.methodLink RX5 68 yX2_hasLesserRent, Cond.instanceMethod yX2_hasLesserRent]
def wsL_law_r8 : List Cond := [Cond.selects RX2 yX2_hasLesserRent yX2_hasLesserRent, Cond.code yX2_hasLesserRent cX2_hasLesserRent 6 (some .boolean), Cond.methodLink RX5 53 yX6_init, Cond.instanceMethod yX6_init, Cond.code yX6_init cX6_init 5 none, Cond.methodLink RX6 1 objectInit, Cond.fieldLink RX6 7 "RateBook$Unit" "above" "I", Cond.fieldLink RX6 13 "RateBook$Unit" "below" "I", Cond.fieldLink RX6 16 "RateBook$Unit" "rents" "I", Cond.fieldLink RX6 19 "RateBook$Unit" "house" "I", Cond.methodLink RL 27 yX9_unit, Cond.instanceMethod yX9_unit, Cond.selects RX9 yX9_unit yX9_unit, Cond.code yX9_unit cX9_unit 4 (some .int), Cond.fieldLink RX9 79 "RateBookModel" "found" "I", Cond.fieldLink RX9 82 "RateBookModel" "among" "I", Cond.methodLink RX9 97 yX9_finds, Cond.instanceMethod yX9_finds, Cond.selects RX9 yX9_finds yX9_finds, Cond.code yX9_finds cX9_finds 4 none, Cond.methodLink RX9 93 yX9_middle, Cond.instanceMethod yX9_middle, Cond.selects RX9 yX9_middle yX9_middle, Cond.code yX9_middle cX9_middle 7 none]
def wsL_law_r9 : List Cond := [Cond.methodLink RX9 85 yX9_isAsked, Cond.instanceMethod yX9_isAsked, Cond.selects RX9 yX9_isAsked yX9_isAsked, Cond.code yX9_isAsked cX9_isAsked 5 (some .boolean), Cond.methodLink RX9 89 yX9_isLess, Cond.instanceMethod yX9_isLess, Cond.selects RX9 yX9_isLess yX9_isLess, Cond.code yX9_isLess cX9_isLess 5 (some .boolean), Cond.methodLink RL 28 yX8_tested, Cond.instanceMethod yX8_tested, Cond.selects RX8 yX8_tested yX8_tested, Cond.code yX8_tested cX8_tested 3 (some .int), Cond.fieldLink RX8 75 "RateBook$House" "kind" "I", Cond.fieldLink RX8 78 "RateBook$House" "street" "I", Cond.fieldLink RX8 81 "RateBook$House" "number" "I", Cond.fieldLink RX8 84 "RateBook$House" "size" "I", Cond.methodLink RX8 87 yX6_times, Cond.instanceMethod yX6_times, Cond.selects RX6 yX6_times yX6_times, Cond.code yX6_times cX6_times 2 (some .long), Cond.methodLink RL 32 yX9_tested, Cond.instanceMethod yX9_tested, Cond.selects RX9 yX9_tested yX9_tested, Cond.code yX9_tested cX9_tested 2 (some .int)]
def wsL_law_r10 : List Cond := [Cond.methodLink RL 33 yX8_list, Cond.instanceMethod yX8_list, Cond.selects RX8 yX8_list yX8_list, Cond.code yX8_list cX8_list 2 (some .int), Cond.methodLink RX8 91 yX3_reach, Cond.instanceMethod yX3_reach, Cond.selects RX3 yX3_reach yX3_reach, Cond.code yX3_reach cX3_reach 3 (some .boolean), Cond.fieldLink RX3 17 "RateBook$Lists" "made" "I", Cond.fieldLink RX3 25 "RateBook$RateList" "day" "I", Cond.methodLink RX3 21 yX3_at, Cond.instanceMethod yX3_at, Cond.selects RX3 yX3_at yX3_at, Cond.code yX3_at cX3_at 2 (some (.object "RateBook$RateList")), Cond.methodLink RX8 95 yX3_isFull, Cond.instanceMethod yX3_isFull, Cond.selects RX3 yX3_isFull yX3_isFull, Cond.code yX3_isFull cX3_isFull 1 (some .boolean), Cond.methodLink RX8 99 yX3_add, Cond.instanceMethod yX3_add, Cond.selects RX3 yX3_add yX3_add, Cond.code yX3_add cX3_add 4 (some .int), Cond.instantiable RX4 2, Cond.initialized RX4]
def wsL_law_r11 : List Cond := [Cond.methodLink RX3 28 yX4_init, Cond.instanceMethod yX4_init, Cond.code yX4_init cX4_init 4 none, Cond.methodLink RX4 3 objectInit, Cond.fieldLink RX4 9 "RateBook$RateList" "day" "I", Cond.classLink RX4 15 RX6, Cond.fieldLink RX4 17 "RateBook$RateList" "units" "[LRateBook$Unit;", Cond.methodLink RX4 21 yX5_unitOf, Cond.methodLink RL 36 yX9_list, Cond.instanceMethod yX9_list, Cond.selects RX9 yX9_list yX9_list, Cond.code yX9_list cX9_list 4 (some .int), Cond.fieldLink RX9 103 "RateBookModel" "lists" "I", Cond.methodLink RX9 100 yX9_isDay, Cond.static yX9_isDay, Cond.code yX9_isDay cX9_isDay 1 (some .boolean), Cond.methodLink RX9 106 yX9_unit, Cond.methodLink RL 37 yX8_event, Cond.instanceMethod yX8_event, Cond.selects RX8 yX8_event yX8_event, Cond.code yX8_event cX8_event 6 (some .int), Cond.fieldLink RX8 105 "RateBook$House" "events" "LRateBook$Events;", Cond.methodLink RX8 102 yX8_isEvent, Cond.static yX8_isEvent]
def wsL_law_r12 : List Cond := [Cond.code yX8_isEvent cX8_isEvent 2 (some .boolean), Cond.methodLink RX8 109 yX1_isFull, Cond.instanceMethod yX1_isFull, Cond.selects RX1 yX1_isFull yX1_isFull, Cond.code yX1_isFull cX1_isFull 1 (some .boolean), Cond.fieldLink RX1 17 "RateBook$Events" "told" "I", Cond.methodLink RX8 112 yX1_add, Cond.instanceMethod yX1_add, Cond.selects RX1 yX1_add yX1_add, Cond.code yX1_add cX1_add 6 none, Cond.fieldLink RX1 21 "RateBook$Event" "day" "I", Cond.instantiable RX0 4, Cond.initialized RX0, Cond.methodLink RX1 24 yX0_init, Cond.instanceMethod yX0_init, Cond.code yX0_init cX0_init 5 none, Cond.methodLink RX0 1 objectInit, Cond.fieldLink RX0 7 "RateBook$Event" "number" "I", Cond.fieldLink RX0 13 "RateBook$Event" "day" "I", Cond.fieldLink RX0 16 "RateBook$Event" "kind" "I", Cond.fieldLink RX0 19 "RateBook$Event" "value" "I", Cond.methodLink RL 41 yX9_event, Cond.instanceMethod yX9_event, Cond.selects RX9 yX9_event yX9_event]
def wsL_law_r13 : List Cond := [Cond.code yX9_event cX9_event 5 (some .int), Cond.methodLink RX9 110 yX9_isValue, Cond.static yX9_isValue, Cond.code yX9_isValue cX9_isValue 2 (some .boolean), Cond.methodLink RX9 113 yX9_adds, Cond.instanceMethod yX9_adds, Cond.selects RX9 yX9_adds yX9_adds, Cond.code yX9_adds cX9_adds 6 none, Cond.methodLink RL 42 yX8_appeal, Cond.instanceMethod yX8_appeal, Cond.selects RX8 yX8_appeal yX8_appeal, Cond.code yX8_appeal cX8_appeal 6 (some .int), Cond.methodLink RX8 118 yX8_cutLike, Cond.instanceMethod yX8_cutLike, Cond.selects RX8 yX8_cutLike yX8_cutLike, Cond.code yX8_cutLike cX8_cutLike 7 (some .int), Cond.methodLink RX8 224 yX2_isLike, Cond.instanceMethod yX2_isLike, Cond.selects RX2 yX2_isLike yX2_isLike, Cond.code yX2_isLike cX2_isLike 2 (some .boolean), Cond.methodLink RX8 122 yX8_cutOne, Cond.static yX8_cutOne, Cond.code yX8_cutOne cX8_cutOne 3 (some .int), Cond.methodLink RL 46 yX9_appeal]
def wsL_law_r14 : List Cond := [Cond.instanceMethod yX9_appeal, Cond.selects RX9 yX9_appeal yX9_appeal, Cond.code yX9_appeal cX9_appeal 7 (some .int), Cond.methodLink RX9 117 yX9_isLike, Cond.instanceMethod yX9_isLike, Cond.selects RX9 yX9_isLike yX9_isLike, Cond.code yX9_isLike cX9_isLike 3 (some .boolean), Cond.methodLink RL 47 yX8_strike, Cond.instanceMethod yX8_strike, Cond.selects RX8 yX8_strike yX8_strike, Cond.code yX8_strike cX8_strike 3 (some .int), Cond.methodLink RX8 125 yX1_dropLatestTold, Cond.instanceMethod yX1_dropLatestTold, Cond.selects RX1 yX1_dropLatestTold yX1_dropLatestTold, Cond.code yX1_dropLatestTold cX1_dropLatestTold 4 none, Cond.fieldLink RX1 27 "RateBook$Event" "number" "I", Cond.methodLink RL 50 yX9_strike, Cond.instanceMethod yX9_strike, Cond.selects RX9 yX9_strike yX9_strike, Cond.code yX9_strike cX9_strike 2 (some .int), Cond.methodLink RL 51 yX8_on, Cond.instanceMethod yX8_on, Cond.selects RX8 yX8_on yX8_on, Cond.code yX8_on cX8_on 5 (some .int)]
def wsL_law_r15 : List Cond := [Cond.methodLink RX8 128 yX2_sizeOn, Cond.instanceMethod yX2_sizeOn, Cond.selects RX2 yX2_sizeOn yX2_sizeOn, Cond.code yX2_sizeOn cX2_sizeOn 3 (some .int), Cond.fieldLink RX2 41 "RateBook$Event" "value" "I", Cond.methodLink RX2 37 yX1_latestOf, Cond.instanceMethod yX1_latestOf, Cond.selects RX1 yX1_latestOf yX1_latestOf, Cond.code yX1_latestOf cX1_latestOf 6 (some (.object "RateBook$Event")), Cond.fieldLink RX1 30 "RateBook$Event" "kind" "I", Cond.methodLink RX8 132 yX2_useOn, Cond.instanceMethod yX2_useOn, Cond.selects RX2 yX2_useOn yX2_useOn, Cond.code yX2_useOn cX2_useOn 3 (some .int), Cond.methodLink RX8 135 yX8_worthOn, Cond.instanceMethod yX8_worthOn, Cond.selects RX8 yX8_worthOn yX8_worthOn, Cond.code yX8_worthOn cX8_worthOn 5 (some .int), Cond.fieldLink RX8 237 "RateBook$RateList" "day" "I", Cond.methodLink RX8 145 yX3_standingOn, Cond.instanceMethod yX3_standingOn, Cond.selects RX3 yX3_standingOn yX3_standingOn, Cond.code yX3_standingOn cX3_standingOn 5 (some .int), Cond.methodLink RX8 228 yX3_at]
def wsL_law_r16 : List Cond := [Cond.methodLink RX8 231 yX4_unitFor, Cond.instanceMethod yX4_unitFor, Cond.selects RX4 yX4_unitFor yX4_unitFor, Cond.code yX4_unitFor cX4_unitFor 4 (some (.object "RateBook$Unit")), Cond.methodLink RX8 240 yX1_cutDown, Cond.instanceMethod yX1_cutDown, Cond.selects RX1 yX1_cutDown yX1_cutDown, Cond.code yX1_cutDown cX1_cutDown 9 (some .long), Cond.fieldLink RX1 33 "RateBook$Event" "value" "I", Cond.constantLong RX1 36 (1000), Cond.methodLink RX8 139 yX8_countedOn, Cond.instanceMethod yX8_countedOn, Cond.selects RX8 yX8_countedOn yX8_countedOn, Cond.code yX8_countedOn cX8_countedOn 5 (some .int), Cond.fieldLink RX8 248 "RateBook$Event" "value" "I", Cond.fieldLink RX8 253 "RateBook$Event" "day" "I", Cond.methodLink RX8 244 yX1_latestOf, Cond.methodLink RX8 142 yX8_relieved, Cond.static yX8_relieved, Cond.code yX8_relieved cX8_relieved 1 (some .int), Cond.methodLink RL 54 yX9_on, Cond.instanceMethod yX9_on, Cond.selects RX9 yX9_on yX9_on, Cond.code yX9_on cX9_on 4 (some .int)]
def wsL_law_r17 : List Cond := [Cond.methodLink RX9 127 yX9_sizeOn, Cond.instanceMethod yX9_sizeOn, Cond.selects RX9 yX9_sizeOn yX9_sizeOn, Cond.code yX9_sizeOn cX9_sizeOn 4 (some .int), Cond.methodLink RX9 120 yX9_counting, Cond.instanceMethod yX9_counting, Cond.selects RX9 yX9_counting yX9_counting, Cond.code yX9_counting cX9_counting 7 (some .int), Cond.methodLink RX9 139 yX9_useOn, Cond.instanceMethod yX9_useOn, Cond.selects RX9 yX9_useOn yX9_useOn, Cond.code yX9_useOn cX9_useOn 4 (some .int), Cond.methodLink RX9 136 yX9_worthOn, Cond.instanceMethod yX9_worthOn, Cond.selects RX9 yX9_worthOn yX9_worthOn, Cond.code yX9_worthOn cX9_worthOn 9 (some .int), Cond.constantLong RX9 134 (1000), Cond.methodLink RX9 123 yX9_listOn, Cond.instanceMethod yX9_listOn, Cond.selects RX9 yX9_listOn yX9_listOn, Cond.code yX9_listOn cX9_listOn 4 (some .int), Cond.methodLink RX9 131 yX9_nextCut, Cond.instanceMethod yX9_nextCut, Cond.selects RX9 yX9_nextCut yX9_nextCut]
def wsL_law_r18 : List Cond := [Cond.code yX9_nextCut cX9_nextCut 6 (some .int), Cond.methodLink RX9 142 yX9_countsOn, Cond.instanceMethod yX9_countsOn, Cond.selects RX9 yX9_countsOn yX9_countsOn, Cond.code yX9_countsOn cX9_countsOn 4 (some .int), Cond.methodLink RX9 145 yX9_relieved, Cond.static yX9_relieved, Cond.code yX9_relieved cX9_relieved 1 (some .int), Cond.methodLink RL 55 yX8_year, Cond.instanceMethod yX8_year, Cond.selects RX8 yX8_year yX8_year, Cond.code yX8_year cX8_year 4 (some .long), Cond.constantLong RX8 148 (-1), Cond.methodLink RX8 150 yX8_sumOfYear, Cond.instanceMethod yX8_sumOfYear, Cond.selects RX8 yX8_sumOfYear yX8_sumOfYear, Cond.code yX8_sumOfYear cX8_sumOfYear 9 (some .long), Cond.methodLink RX8 254 yX1_nextChange, Cond.instanceMethod yX1_nextChange, Cond.selects RX1 yX1_nextChange yX1_nextChange, Cond.code yX1_nextChange cX1_nextChange 6 (some .int), Cond.static yX8_sooner, Cond.code yX8_sooner cX8_sooner 3 (some .int), Cond.methodLink RX8 257 yX3_nextChange]
def wsL_law_r19 : List Cond := [Cond.instanceMethod yX3_nextChange, Cond.selects RX3 yX3_nextChange yX3_nextChange, Cond.code yX3_nextChange cX3_nextChange 6 (some .int), Cond.methodLink RL 59 yX9_year, Cond.instanceMethod yX9_year, Cond.selects RX9 yX9_year yX9_year, Cond.code yX9_year cX9_year 3 (some .long), Cond.constantLong RX9 155 (-1), Cond.methodLink RX9 148 yX9_isYear, Cond.static yX9_isYear, Cond.code yX9_isYear cX9_isYear 1 (some .boolean), Cond.methodLink RX9 151 yX9_yearOf, Cond.instanceMethod yX9_yearOf, Cond.selects RX9 yX9_yearOf yX9_yearOf, Cond.code yX9_yearOf cX9_yearOf 6 (some .long), Cond.methodLink RL 60 yX8_bill, Cond.instanceMethod yX8_bill, Cond.selects RX8 yX8_bill yX8_bill, Cond.code yX8_bill cX8_bill 5 (some .int), Cond.methodLink RX8 154 yX8_billFor, Cond.static yX8_billFor, Cond.code yX8_billFor cX8_billFor 3 (some .int), Cond.constantLong RX8 258 (365000), Cond.methodLink RL 63 yX9_bill]
def wsL_law_r20 : List Cond := [Cond.instanceMethod yX9_bill, Cond.selects RX9 yX9_bill yX9_bill, Cond.code yX9_bill cX9_bill 4 (some .int), Cond.constantLong RX9 157 (365000), Cond.methodLink RL 64 yX8_poundage, Cond.instanceMethod yX8_poundage, Cond.selects RX8 yX8_poundage yX8_poundage, Cond.code yX8_poundage cX8_poundage 3 (some .int), Cond.constant RX8 158 (100000000), Cond.methodLink RX8 159 yX8_readYearSums, Cond.instanceMethod yX8_readYearSums, Cond.selects RX8 yX8_readYearSums yX8_readYearSums, Cond.code yX8_readYearSums cX8_readYearSums 4 none, Cond.methodLink RX8 163 yX8_leastPoundage, Cond.instanceMethod yX8_leastPoundage, Cond.selects RX8 yX8_leastPoundage yX8_leastPoundage, Cond.code yX8_leastPoundage cX8_leastPoundage 4 (some .int), Cond.methodLink RX8 260 yX8_billsTogether, Cond.instanceMethod yX8_billsTogether, Cond.selects RX8 yX8_billsTogether yX8_billsTogether, Cond.code yX8_billsTogether cX8_billsTogether 5 (some .long), Cond.methodLink RL 67 yX9_poundage, Cond.instanceMethod yX9_poundage, Cond.selects RX9 yX9_poundage yX9_poundage]
def wsL_law_r21 : List Cond := [Cond.code yX9_poundage cX9_poundage 3 (some .int), Cond.constant RX9 159 (100000000), Cond.methodLink RX9 160 yX9_least, Cond.instanceMethod yX9_least, Cond.selects RX9 yX9_least yX9_least, Cond.code yX9_least cX9_least 7 (some .int), Cond.methodLink RL 68 yX8_struck, Cond.instanceMethod yX8_struck, Cond.selects RX8 yX8_struck yX8_struck, Cond.code yX8_struck cX8_struck 6 (some .int), Cond.fieldLink RX8 170 "RateBook$YearBook" "isStruck" "Z", Cond.fieldLink RX8 174 "RateBook$YearBook" "needs" "I", Cond.fieldLink RX8 177 "RateBook$YearBook" "thousandths" "I", Cond.methodLink RX8 166 yX8_bookOf, Cond.instanceMethod yX8_bookOf, Cond.selects RX8 yX8_bookOf yX8_bookOf, Cond.code yX8_bookOf cX8_bookOf 2 (some (.object "RateBook$YearBook")), Cond.methodLink RX8 181 yX7_putBilled, Cond.instanceMethod yX7_putBilled, Cond.selects RX7 yX7_putBilled yX7_putBilled, Cond.code yX7_putBilled cX7_putBilled 3 none, Cond.methodLink RL 71 yX9_struck, Cond.instanceMethod yX9_struck, Cond.selects RX9 yX9_struck yX9_struck]
def wsL_law_r22 : List Cond := [Cond.code yX9_struck cX9_struck 5 (some .int), Cond.methodLink RL 72 yX8_pay, Cond.instanceMethod yX8_pay, Cond.selects RX8 yX8_pay yX8_pay, Cond.code yX8_pay cX8_pay 6 (some .int), Cond.constant RX8 185 (10000000), Cond.methodLink RX8 186 yX7_paidBy, Cond.instanceMethod yX7_paidBy, Cond.selects RX7 yX7_paidBy yX7_paidBy, Cond.code yX7_paidBy cX7_paidBy 2 (some .int), Cond.methodLink RX8 189 yX7_putPaid, Cond.instanceMethod yX7_putPaid, Cond.selects RX7 yX7_putPaid yX7_putPaid, Cond.code yX7_putPaid cX7_putPaid 3 none, Cond.methodLink RL 75 yX9_pay, Cond.instanceMethod yX9_pay, Cond.selects RX9 yX9_pay yX9_pay, Cond.code yX9_pay cX9_pay 4 (some .int), Cond.constant RX9 163 (10000000), Cond.methodLink RL 76 yX8_paid, Cond.instanceMethod yX8_paid, Cond.selects RX8 yX8_paid yX8_paid, Cond.code yX8_paid cX8_paid 5 (some .int), Cond.methodLink RX8 192 yX7_billedTo]
def wsL_law_r23 : List Cond := [Cond.instanceMethod yX7_billedTo, Cond.selects RX7 yX7_billedTo yX7_billedTo, Cond.code yX7_billedTo cX7_billedTo 2 (some .int), Cond.methodLink RL 79 yX9_paid, Cond.instanceMethod yX9_paid, Cond.selects RX9 yX9_paid yX9_paid, Cond.code yX9_paid cX9_paid 4 (some .int), Cond.methodLink RL 80 yX8_owed, Cond.instanceMethod yX8_owed, Cond.selects RX8 yX8_owed yX8_owed, Cond.code yX8_owed cX8_owed 6 (some .int), Cond.methodLink RX8 199 Lib.Math.max.name, Cond.static Lib.Math.max.name, Cond.initialized "java/lang/Math", Cond.code Lib.Math.max.name Lib.Math.max.code 2 (some .int), Cond.methodLink RX8 195 yX8_openOf, Cond.instanceMethod yX8_openOf, Cond.selects RX8 yX8_openOf yX8_openOf, Cond.code yX8_openOf cX8_openOf 4 (some .int), Cond.methodLink RL 83 yX9_owed, Cond.instanceMethod yX9_owed, Cond.selects RX9 yX9_owed yX9_owed, Cond.code yX9_owed cX9_owed 6 (some .int), Cond.methodLink RL 84 yX8_ward]
def wsL_law_r24 : List Cond := [Cond.instanceMethod yX8_ward, Cond.selects RX8 yX8_ward yX8_ward, Cond.code yX8_ward cX8_ward 5 (some .int), Cond.methodLink RX8 204 yX8_billedIn, Cond.instanceMethod yX8_billedIn, Cond.selects RX8 yX8_billedIn yX8_billedIn, Cond.code yX8_billedIn cX8_billedIn 5 (some .int), Cond.methodLink RX8 263 yX5_isIn, Cond.instanceMethod yX5_isIn, Cond.selects RX5 yX5_isIn yX5_isIn, Cond.code yX5_isIn cX5_isIn 4 (some .boolean), Cond.fieldLink RX5 28 "RateBook$House" "ward" "I", Cond.methodLink RX5 24 yX5_at, Cond.methodLink RX8 208 yX8_paidIn, Cond.instanceMethod yX8_paidIn, Cond.selects RX8 yX8_paidIn yX8_paidIn, Cond.code yX8_paidIn cX8_paidIn 5 (some .int), Cond.methodLink RL 87 yX9_ward, Cond.instanceMethod yX9_ward, Cond.selects RX9 yX9_ward yX9_ward, Cond.code yX9_ward cX9_ward 8 (some .int), Cond.methodLink RL 88 yX8_count, Cond.instanceMethod yX8_count, Cond.selects RX8 yX8_count yX8_count]
def wsL_law_r25 : List Cond := [Cond.code yX8_count cX8_count 2 (some .int), Cond.methodLink RX8 214 yX5_eventsTold, Cond.instanceMethod yX5_eventsTold, Cond.selects RX5 yX5_eventsTold yX5_eventsTold, Cond.code yX5_eventsTold cX5_eventsTold 4 (some .int), Cond.fieldLink RX5 31 "RateBook$House" "events" "LRateBook$Events;", Cond.methodLink RX8 218 yX8_struckYears, Cond.instanceMethod yX8_struckYears, Cond.selects RX8 yX8_struckYears yX8_struckYears, Cond.code yX8_struckYears cX8_struckYears 4 (some .int), Cond.methodLink RX8 221 yX5_rentsKnown, Cond.instanceMethod yX5_rentsKnown, Cond.selects RX5 yX5_rentsKnown yX5_rentsKnown, Cond.code yX5_rentsKnown cX5_rentsKnown 4 (some .int), Cond.methodLink RL 91 yX9_count, Cond.instanceMethod yX9_count, Cond.selects RX9 yX9_count yX9_count, Cond.code yX9_count cX9_count 6 (some .int)]
def wsL_law : List Cond := (wsL_law_r1 ++ (wsL_law_r2 ++ (wsL_law_r3 ++ (wsL_law_r4 ++ (wsL_law_r5 ++ (wsL_law_r6 ++ (wsL_law_r7 ++ (wsL_law_r8 ++ (wsL_law_r9 ++ (wsL_law_r10 ++ (wsL_law_r11 ++ (wsL_law_r12 ++ (wsL_law_r13 ++ (wsL_law_r14 ++ (wsL_law_r15 ++ (wsL_law_r16 ++ (wsL_law_r17 ++ (wsL_law_r18 ++ (wsL_law_r19 ++ (wsL_law_r20 ++ (wsL_law_r21 ++ (wsL_law_r22 ++ (wsL_law_r23 ++ (wsL_law_r24 ++ wsL_law_r25)))))))))))))))))))))))) ++ wsX80 ++ wsX90 ++ wsX50 ++ wsX30 ++ wsX70 ++ wsX20 ++ wsX10 ++ wsX60 ++ wsX40 ++ wsX00 ++ ([] : List Cond)
end
section
set_option maxRecDepth 20000 in
theorem tin_wsL_law_r1 : GoodIn lw_tbl wsL_law_r1 := goodIn_r _ [43, 44, 32, 523, 524, 36, 45, 46, 47, 48, 49, 50, 51, 52, 33, 108, 67, 68, 34, 109, 106, 111, 83, 110] (by decide +kernel) (by decide +kernel)
set_option maxRecDepth 20000 in
theorem tin_wsL_law_r2 : GoodIn lw_tbl wsL_law_r2 := goodIn_r _ [85, 35, 53, 54, 55, 56, 57, 59, 69, 70, 71, 72, 73, 75, 86, 87, 88, 89, 107, 90, 91, 525, 526, 527] (by decide +kernel) (by decide +kernel)
set_option maxRecDepth 20000 in
theorem tin_wsL_law_r3 : GoodIn lw_tbl wsL_law_r3 := goodIn_r _ [528, 530, 531, 532, 533, 534, 535, 536, 537, 538, 540, 541, 542, 596, 543, 544, 545, 546, 547, 550, 121, 122, 123, 124] (by decide +kernel) (by decide +kernel)
set_option maxRecDepth 20000 in
theorem tin_wsL_law_r4 : GoodIn lw_tbl wsL_law_r4 := goodIn_r _ [131, 125, 126, 127, 128, 129, 130, 132, 133, 134, 135, 60, 136, 37, 137, 138, 139, 140, 158, 161, 163, 165, 167, 173] (by decide +kernel) (by decide +kernel)
set_option maxRecDepth 20000 in
theorem tin_wsL_law_r5 : GoodIn lw_tbl wsL_law_r5 := goodIn_r _ [141, 142, 38, 170, 143, 144, 145, 146, 147, 149, 597, 598, 599, 600, 604, 529, 601, 602, 603, 191, 192, 193, 194, 174] (by decide +kernel) (by decide +kernel)
set_option maxRecDepth 20000 in
theorem tin_wsL_law_r6 : GoodIn lw_tbl wsL_law_r6 := goodIn_r _ [195, 196, 197, 198, 605, 606, 607, 608, 609, 611, 15, 612, 199, 200, 201, 202, 234, 236, 238, 240, 203, 204, 205, 206] (by decide +kernel) (by decide +kernel)
set_option maxRecDepth 20000 in
theorem tin_wsL_law_r7 : GoodIn lw_tbl wsL_law_r7 := goodIn_r _ [227, 228, 39, 175, 169, 160, 207, 209, 0, 210, 211, 212, 213, 214, 215, 217, 1, 218, 219, 221, 2, 222, 223, 224] (by decide +kernel) (by decide +kernel)
set_option maxRecDepth 20000 in
theorem tin_wsL_law_r8 : GoodIn lw_tbl wsL_law_r8 := goodIn_r _ [225, 226, 229, 230, 231, 232, 233, 235, 237, 239, 613, 614, 615, 616, 548, 549, 617, 619, 16, 620, 621, 623, 17, 624] (by decide +kernel) (by decide +kernel)
set_option maxRecDepth 20000 in
theorem tin_wsL_law_r9 : GoodIn lw_tbl wsL_law_r9 := goodIn_r _ [625, 627, 18, 628, 629, 631, 19, 632, 250, 251, 252, 253, 164, 166, 159, 168, 254, 255, 256, 257, 633, 634, 635, 636] (by decide +kernel) (by decide +kernel)
set_option maxRecDepth 20000 in
theorem tin_wsL_law_r10 : GoodIn lw_tbl wsL_law_r10 := goodIn_r _ [258, 259, 260, 261, 262, 263, 264, 265, 76, 287, 266, 267, 268, 269, 270, 271, 272, 273, 274, 275, 276, 277, 278, 40] (by decide +kernel) (by decide +kernel)
set_option maxRecDepth 20000 in
theorem tin_wsL_law_r11 : GoodIn lw_tbl wsL_law_r11 := goodIn_r _ [279, 280, 281, 282, 286, 283, 289, 285, 637, 638, 639, 640, 539, 641, 642, 643, 644, 295, 296, 297, 298, 172, 299, 300] (by decide +kernel) (by decide +kernel)
set_option maxRecDepth 20000 in
theorem tin_wsL_law_r12 : GoodIn lw_tbl wsL_law_r12 := goodIn_r _ [301, 302, 303, 304, 305, 150, 306, 307, 308, 309, 318, 310, 41, 311, 312, 313, 314, 315, 317, 320, 322, 645, 646, 647] (by decide +kernel) (by decide +kernel)
set_option maxRecDepth 20000 in
theorem tin_wsL_law_r13 : GoodIn lw_tbl wsL_law_r13 := goodIn_r _ [648, 649, 650, 651, 652, 654, 20, 655, 335, 336, 337, 338, 339, 341, 3, 342, 343, 344, 345, 346, 347, 348, 349, 656] (by decide +kernel) (by decide +kernel)
set_option maxRecDepth 20000 in
theorem tin_wsL_law_r14 : GoodIn lw_tbl wsL_law_r14 := goodIn_r _ [657, 658, 659, 660, 662, 21, 663, 350, 351, 352, 353, 354, 355, 356, 357, 316, 664, 665, 666, 667, 358, 359, 360, 361] (by decide +kernel) (by decide +kernel)
set_option maxRecDepth 20000 in
theorem tin_wsL_law_r15 : GoodIn lw_tbl wsL_law_r15 := goodIn_r _ [362, 363, 364, 365, 323, 366, 367, 368, 369, 321, 370, 371, 372, 373, 374, 376, 4, 377, 288, 378, 379, 380, 381, 382] (by decide +kernel) (by decide +kernel)
set_option maxRecDepth 20000 in
theorem tin_wsL_law_r16 : GoodIn lw_tbl wsL_law_r16 := goodIn_r _ [383, 384, 385, 386, 387, 388, 389, 390, 324, 391, 392, 394, 5, 395, 325, 319, 396, 397, 398, 399, 668, 669, 670, 671] (by decide +kernel) (by decide +kernel)
set_option maxRecDepth 20000 in
theorem tin_wsL_law_r17 : GoodIn lw_tbl wsL_law_r17 := goodIn_r _ [672, 674, 22, 675, 676, 678, 23, 679, 680, 682, 24, 683, 684, 686, 25, 687, 696, 688, 690, 26, 691, 692, 694, 27] (by decide +kernel) (by decide +kernel)
set_option maxRecDepth 20000 in
theorem tin_wsL_law_r18 : GoodIn lw_tbl wsL_law_r18 := goodIn_r _ [695, 697, 699, 28, 700, 701, 702, 703, 400, 401, 402, 403, 404, 405, 407, 6, 408, 409, 410, 411, 412, 414, 415, 416] (by decide +kernel) (by decide +kernel)
set_option maxRecDepth 20000 in
theorem tin_wsL_law_r19 : GoodIn lw_tbl wsL_law_r19 := goodIn_r _ [417, 418, 419, 704, 705, 706, 707, 715, 708, 709, 710, 711, 713, 29, 714, 421, 422, 423, 424, 425, 426, 427, 428, 716] (by decide +kernel) (by decide +kernel)
set_option maxRecDepth 20000 in
theorem tin_wsL_law_r20 : GoodIn lw_tbl wsL_law_r20 := goodIn_r _ [717, 718, 719, 720, 429, 430, 431, 432, 433, 434, 436, 7, 437, 438, 440, 8, 441, 442, 444, 9, 445, 721, 722, 723] (by decide +kernel) (by decide +kernel)
set_option maxRecDepth 20000 in
theorem tin_wsL_law_r21 : GoodIn lw_tbl wsL_law_r21 := goodIn_r _ [724, 725, 726, 728, 30, 729, 446, 447, 448, 449, 92, 93, 94, 450, 452, 10, 453, 454, 455, 456, 457, 730, 731, 732] (by decide +kernel) (by decide +kernel)
set_option maxRecDepth 20000 in
theorem tin_wsL_law_r22 : GoodIn lw_tbl wsL_law_r22 := goodIn_r _ [733, 458, 459, 460, 461, 462, 463, 464, 465, 466, 467, 468, 469, 470, 734, 735, 736, 737, 738, 471, 472, 473, 474, 475] (by decide +kernel) (by decide +kernel)
set_option maxRecDepth 20000 in
theorem tin_wsL_law_r23 : GoodIn lw_tbl wsL_law_r23 := goodIn_r _ [476, 477, 478, 739, 740, 741, 742, 479, 480, 481, 482, 487, 488, 42, 489, 483, 485, 11, 486, 743, 744, 745, 746, 490] (by decide +kernel) (by decide +kernel)
set_option maxRecDepth 20000 in
theorem tin_wsL_law_r24 : GoodIn lw_tbl wsL_law_r24 := goodIn_r _ [491, 492, 493, 494, 496, 12, 497, 498, 499, 500, 501, 162, 502, 503, 505, 13, 506, 747, 748, 749, 750, 507, 508, 509] (by decide +kernel) (by decide +kernel)
set_option maxRecDepth 20000 in
theorem tin_wsL_law_r25 : GoodIn lw_tbl wsL_law_r25 := goodIn_r _ [510, 511, 512, 513, 514, 171, 515, 517, 14, 518, 519, 520, 521, 522, 751, 752, 753, 754] (by decide +kernel) (by decide +kernel)
set_option maxRecDepth 20000 in
theorem tin_wsX80 : GoodIn lw_tbl wsX80 := goodIn_r _ [112, 114, 116, 118] (by decide +kernel) (by decide +kernel)
set_option maxRecDepth 20000 in
theorem tin_wsX90 : GoodIn lw_tbl wsX90 := goodIn_r _ [551, 553, 555, 557, 559, 561, 563, 565, 567, 569, 571, 573, 575, 577, 579, 581, 583, 585, 587, 589, 591, 593] (by decide +kernel) (by decide +kernel)
set_option maxRecDepth 20000 in
theorem tin_wsX50 : GoodIn lw_tbl wsX50 := goodIn_r _ [62, 64] (by decide +kernel) (by decide +kernel)
set_option maxRecDepth 20000 in
theorem tin_wsX30 : GoodIn lw_tbl wsX30 := goodIn_r _ [78, 80] (by decide +kernel) (by decide +kernel)
set_option maxRecDepth 20000 in
theorem tin_wsX70 : GoodIn lw_tbl wsX70 := goodIn_r _ [95, 97, 99, 101, 103] (by decide +kernel) (by decide +kernel)
set_option maxRecDepth 20000 in
theorem tin_wsX20 : GoodIn lw_tbl wsX20 := goodIn_r _ [176, 178, 180, 182, 184, 186, 188] (by decide +kernel) (by decide +kernel)
set_option maxRecDepth 20000 in
theorem tin_wsX10 : GoodIn lw_tbl wsX10 := goodIn_r _ [153, 155] (by decide +kernel) (by decide +kernel)
set_option maxRecDepth 20000 in
theorem tin_wsX60 : GoodIn lw_tbl wsX60 := goodIn_r _ [241, 243, 245, 247] (by decide +kernel) (by decide +kernel)
set_option maxRecDepth 20000 in
theorem tin_wsX40 : GoodIn lw_tbl wsX40 := goodIn_r _ [290, 292] (by decide +kernel) (by decide +kernel)
set_option maxRecDepth 20000 in
theorem tin_wsX00 : GoodIn lw_tbl wsX00 := goodIn_r _ [326, 328, 330, 332] (by decide +kernel) (by decide +kernel)
theorem wsL_law_in : ∀ w ∈ wsL_law, w ∈ lw_tbl := fun w h => (show GoodIn lw_tbl wsL_law from (goodIn_app (goodIn_app (goodIn_app (goodIn_app (goodIn_app (goodIn_app (goodIn_app (goodIn_app (goodIn_app (goodIn_app (goodIn_app (goodIn_app tin_wsL_law_r1 (goodIn_app tin_wsL_law_r2 (goodIn_app tin_wsL_law_r3 (goodIn_app tin_wsL_law_r4 (goodIn_app tin_wsL_law_r5 (goodIn_app tin_wsL_law_r6 (goodIn_app tin_wsL_law_r7 (goodIn_app tin_wsL_law_r8 (goodIn_app tin_wsL_law_r9 (goodIn_app tin_wsL_law_r10 (goodIn_app tin_wsL_law_r11 (goodIn_app tin_wsL_law_r12 (goodIn_app tin_wsL_law_r13 (goodIn_app tin_wsL_law_r14 (goodIn_app tin_wsL_law_r15 (goodIn_app tin_wsL_law_r16 (goodIn_app tin_wsL_law_r17 (goodIn_app tin_wsL_law_r18 (goodIn_app tin_wsL_law_r19 (goodIn_app tin_wsL_law_r20 (goodIn_app tin_wsL_law_r21 (goodIn_app tin_wsL_law_r22 (goodIn_app tin_wsL_law_r23 (goodIn_app tin_wsL_law_r24 tin_wsL_law_r25)))))))))))))))))))))))) tin_wsX80) tin_wsX90) tin_wsX50) tin_wsX30) tin_wsX70) tin_wsX20) tin_wsX10) tin_wsX60) tin_wsX40) tin_wsX00) (fun w h => absurd h List.not_mem_nil))) w h |>.1
theorem inlX0 : ∀ w ∈ wsX00, w ∈ wsL_law := fun _ h => List.mem_append_left _ (List.mem_append_right _ h)
theorem inX0 : ∀ w ∈ wsX00, w ∈ lw_tbl := fun w h => wsL_law_in w (inlX0 w h)
theorem inlX1 : ∀ w ∈ wsX10, w ∈ wsL_law := fun _ h => List.mem_append_left _ (List.mem_append_left _ (List.mem_append_left _ (List.mem_append_left _ (List.mem_append_right _ h))))
theorem inX1 : ∀ w ∈ wsX10, w ∈ lw_tbl := fun w h => wsL_law_in w (inlX1 w h)
theorem inlX2 : ∀ w ∈ wsX20, w ∈ wsL_law := fun _ h => List.mem_append_left _ (List.mem_append_left _ (List.mem_append_left _ (List.mem_append_left _ (List.mem_append_left _ (List.mem_append_right _ h)))))
theorem inX2 : ∀ w ∈ wsX20, w ∈ lw_tbl := fun w h => wsL_law_in w (inlX2 w h)
theorem inlX3 : ∀ w ∈ wsX30, w ∈ wsL_law := fun _ h => List.mem_append_left _ (List.mem_append_left _ (List.mem_append_left _ (List.mem_append_left _ (List.mem_append_left _ (List.mem_append_left _ (List.mem_append_left _ (List.mem_append_right _ h)))))))
theorem inX3 : ∀ w ∈ wsX30, w ∈ lw_tbl := fun w h => wsL_law_in w (inlX3 w h)
theorem inlX4 : ∀ w ∈ wsX40, w ∈ wsL_law := fun _ h => List.mem_append_left _ (List.mem_append_left _ (List.mem_append_right _ h))
theorem inX4 : ∀ w ∈ wsX40, w ∈ lw_tbl := fun w h => wsL_law_in w (inlX4 w h)
theorem inlX5 : ∀ w ∈ wsX50, w ∈ wsL_law := fun _ h => List.mem_append_left _ (List.mem_append_left _ (List.mem_append_left _ (List.mem_append_left _ (List.mem_append_left _ (List.mem_append_left _ (List.mem_append_left _ (List.mem_append_left _ (List.mem_append_right _ h))))))))
theorem inX5 : ∀ w ∈ wsX50, w ∈ lw_tbl := fun w h => wsL_law_in w (inlX5 w h)
theorem inlX6 : ∀ w ∈ wsX60, w ∈ wsL_law := fun _ h => List.mem_append_left _ (List.mem_append_left _ (List.mem_append_left _ (List.mem_append_right _ h)))
theorem inX6 : ∀ w ∈ wsX60, w ∈ lw_tbl := fun w h => wsL_law_in w (inlX6 w h)
theorem inlX7 : ∀ w ∈ wsX70, w ∈ wsL_law := fun _ h => List.mem_append_left _ (List.mem_append_left _ (List.mem_append_left _ (List.mem_append_left _ (List.mem_append_left _ (List.mem_append_left _ (List.mem_append_right _ h))))))
theorem inX7 : ∀ w ∈ wsX70, w ∈ lw_tbl := fun w h => wsL_law_in w (inlX7 w h)
theorem inlX8 : ∀ w ∈ wsX80, w ∈ wsL_law := fun _ h => List.mem_append_left _ (List.mem_append_left _ (List.mem_append_left _ (List.mem_append_left _ (List.mem_append_left _ (List.mem_append_left _ (List.mem_append_left _ (List.mem_append_left _ (List.mem_append_left _ (List.mem_append_left _ (List.mem_append_right _ h))))))))))
theorem inX8 : ∀ w ∈ wsX80, w ∈ lw_tbl := fun w h => wsL_law_in w (inlX8 w h)
theorem inlX9 : ∀ w ∈ wsX90, w ∈ wsL_law := fun _ h => List.mem_append_left _ (List.mem_append_left _ (List.mem_append_left _ (List.mem_append_left _ (List.mem_append_left _ (List.mem_append_left _ (List.mem_append_left _ (List.mem_append_left _ (List.mem_append_left _ (List.mem_append_right _ h)))))))))
theorem inX9 : ∀ w ∈ wsX90, w ∈ lw_tbl := fun w h => wsL_law_in w (inlX9 w h)
theorem inJ9 : ∀ w ∈ wsJ90, w ∈ lw_tbl := by decide +kernel
end
section
theorem dX0_init_0 : decode cX0_init 0 = .ok (.aload_n 0, 1) := by decide +kernel
theorem dX0_init_1 : decode cX0_init 1 = .ok (.invokespecial 1, 3) := by decide +kernel
theorem dX0_init_4 : decode cX0_init 4 = .ok (.aload_n 0, 1) := by decide +kernel
theorem dX0_init_5 : decode cX0_init 5 = .ok (.iload_n 1, 1) := by decide +kernel
theorem dX0_init_6 : decode cX0_init 6 = .ok (.putfield 7, 3) := by decide +kernel
theorem dX0_init_9 : decode cX0_init 9 = .ok (.aload_n 0, 1) := by decide +kernel
theorem dX0_init_10 : decode cX0_init 10 = .ok (.iload_n 2, 1) := by decide +kernel
theorem dX0_init_11 : decode cX0_init 11 = .ok (.putfield 13, 3) := by decide +kernel
theorem dX0_init_14 : decode cX0_init 14 = .ok (.aload_n 0, 1) := by decide +kernel
theorem dX0_init_15 : decode cX0_init 15 = .ok (.iload_n 3, 1) := by decide +kernel
theorem dX0_init_16 : decode cX0_init 16 = .ok (.putfield 16, 3) := by decide +kernel
theorem dX0_init_19 : decode cX0_init 19 = .ok (.aload_n 0, 1) := by decide +kernel
theorem dX0_init_20 : decode cX0_init 20 = .ok (.iload 4, 2) := by decide +kernel
theorem dX0_init_22 : decode cX0_init 22 = .ok (.putfield 19, 3) := by decide +kernel
theorem dX0_init_25 : decode cX0_init 25 = .ok (.return_, 1) := by decide +kernel
theorem dX1_init_0 : decode cX1_init 0 = .ok (.aload_n 0, 1) := by decide +kernel
theorem dX1_init_1 : decode cX1_init 1 = .ok (.invokespecial 3, 3) := by decide +kernel
theorem dX1_init_4 : decode cX1_init 4 = .ok (.aload_n 0, 1) := by decide +kernel
theorem dX1_init_5 : decode cX1_init 5 = .ok (.bipush 12, 2) := by decide +kernel
theorem dX1_init_7 : decode cX1_init 7 = .ok (.anewarray 9, 3) := by decide +kernel
theorem dX1_init_10 : decode cX1_init 10 = .ok (.putfield 11, 3) := by decide +kernel
theorem dX1_init_13 : decode cX1_init 13 = .ok (.return_, 1) := by decide +kernel
theorem dX1_isFull_0 : decode cX1_isFull 0 = .ok (.aload_n 0, 1) := by decide +kernel
theorem dX1_isFull_1 : decode cX1_isFull 1 = .ok (.getfield 17, 3) := by decide +kernel
theorem dX1_isFull_4 : decode cX1_isFull 4 = .ok (.aload_n 0, 1) := by decide +kernel
theorem dX1_isFull_5 : decode cX1_isFull 5 = .ok (.getfield 11, 3) := by decide +kernel
theorem dX1_isFull_8 : decode cX1_isFull 8 = .ok (.arraylength, 1) := by decide +kernel
theorem dX1_isFull_9 : decode cX1_isFull 9 = .ok (.if_icmp .lt 7, 3) := by decide +kernel
theorem dX1_isFull_12 : decode cX1_isFull 12 = .ok (.iconst 1, 1) := by decide +kernel
theorem dX1_isFull_13 : decode cX1_isFull 13 = .ok (.goto 4, 3) := by decide +kernel
theorem dX1_isFull_16 : decode cX1_isFull 16 = .ok (.iconst 0, 1) := by decide +kernel
theorem dX1_isFull_17 : decode cX1_isFull 17 = .ok (.ireturn, 1) := by decide +kernel
set_option maxRecDepth 20000 in
theorem ggX1_add_X0_init : GoodIn wsX1_add wsX0_init := goodIn_r _ [9, 10, 11, 12, 13, 14, 15, 16, 19, 20, 21, 22] (by decide +kernel) (by decide +kernel)
set_option maxRecDepth 20000 in
theorem gX1_add_X0_init : GoodIn wsX1_add (wsX0_init) := ggX1_add_X0_init
theorem dX1_add_0 : decode cX1_add 0 = .ok (.aload_n 0, 1) := by decide +kernel
theorem dX1_add_1 : decode cX1_add 1 = .ok (.getfield 17, 3) := by decide +kernel
theorem dX1_add_4 : decode cX1_add 4 = .ok (.ifCond .lt 15, 3) := by decide +kernel
theorem dX1_add_7 : decode cX1_add 7 = .ok (.aload_n 0, 1) := by decide +kernel
theorem dX1_add_8 : decode cX1_add 8 = .ok (.getfield 17, 3) := by decide +kernel
theorem dX1_add_11 : decode cX1_add 11 = .ok (.aload_n 0, 1) := by decide +kernel
theorem dX1_add_12 : decode cX1_add 12 = .ok (.getfield 11, 3) := by decide +kernel
theorem dX1_add_15 : decode cX1_add 15 = .ok (.arraylength, 1) := by decide +kernel
theorem dX1_add_16 : decode cX1_add 16 = .ok (.if_icmp .lt 4, 3) := by decide +kernel
theorem dX1_add_19 : decode cX1_add 19 = .ok (.return_, 1) := by decide +kernel
theorem dX1_add_20 : decode cX1_add 20 = .ok (.aload_n 0, 1) := by decide +kernel
theorem dX1_add_21 : decode cX1_add 21 = .ok (.getfield 17, 3) := by decide +kernel
theorem dX1_add_24 : decode cX1_add 24 = .ok (.istore 4, 2) := by decide +kernel
theorem dX1_add_26 : decode cX1_add 26 = .ok (.iload 4, 2) := by decide +kernel
theorem dX1_add_28 : decode cX1_add 28 = .ok (.ifCond .le 46, 3) := by decide +kernel
theorem dX1_add_31 : decode cX1_add 31 = .ok (.aload_n 0, 1) := by decide +kernel
theorem dX1_add_32 : decode cX1_add 32 = .ok (.getfield 11, 3) := by decide +kernel
theorem dX1_add_35 : decode cX1_add 35 = .ok (.iload 4, 2) := by decide +kernel
theorem dX1_add_37 : decode cX1_add 37 = .ok (.iconst 1, 1) := by decide +kernel
theorem dX1_add_38 : decode cX1_add 38 = .ok (.isub, 1) := by decide +kernel
theorem dX1_add_39 : decode cX1_add 39 = .ok (.aaload, 1) := by decide +kernel
theorem dX1_add_40 : decode cX1_add 40 = .ok (.astore 5, 2) := by decide +kernel
theorem dX1_add_42 : decode cX1_add 42 = .ok (.aload 5, 2) := by decide +kernel
theorem dX1_add_44 : decode cX1_add 44 = .ok (.ifnull 15, 3) := by decide +kernel
theorem dX1_add_47 : decode cX1_add 47 = .ok (.aload 5, 2) := by decide +kernel
theorem dX1_add_49 : decode cX1_add 49 = .ok (.getfield 21, 3) := by decide +kernel
theorem dX1_add_52 : decode cX1_add 52 = .ok (.iload_n 1, 1) := by decide +kernel
theorem dX1_add_53 : decode cX1_add 53 = .ok (.if_icmp .gt 6, 3) := by decide +kernel
theorem dX1_add_56 : decode cX1_add 56 = .ok (.goto 18, 3) := by decide +kernel
theorem dX1_add_59 : decode cX1_add 59 = .ok (.aload_n 0, 1) := by decide +kernel
theorem dX1_add_60 : decode cX1_add 60 = .ok (.getfield 11, 3) := by decide +kernel
theorem dX1_add_63 : decode cX1_add 63 = .ok (.iload 4, 2) := by decide +kernel
theorem dX1_add_65 : decode cX1_add 65 = .ok (.aload 5, 2) := by decide +kernel
theorem dX1_add_67 : decode cX1_add 67 = .ok (.aastore, 1) := by decide +kernel
theorem dX1_add_68 : decode cX1_add 68 = .ok (.iinc 4 (-1), 3) := by decide +kernel
theorem dX1_add_71 : decode cX1_add 71 = .ok (.goto (-45), 3) := by decide +kernel
theorem dX1_add_74 : decode cX1_add 74 = .ok (.aload_n 0, 1) := by decide +kernel
theorem dX1_add_75 : decode cX1_add 75 = .ok (.getfield 11, 3) := by decide +kernel
theorem dX1_add_78 : decode cX1_add 78 = .ok (.iload 4, 2) := by decide +kernel
theorem dX1_add_80 : decode cX1_add 80 = .ok (.new 9, 3) := by decide +kernel
theorem dX1_add_83 : decode cX1_add 83 = .ok (.dup, 1) := by decide +kernel
theorem dX1_add_84 : decode cX1_add 84 = .ok (.aload_n 0, 1) := by decide +kernel
theorem dX1_add_85 : decode cX1_add 85 = .ok (.getfield 17, 3) := by decide +kernel
theorem dX1_add_88 : decode cX1_add 88 = .ok (.iload_n 1, 1) := by decide +kernel
theorem dX1_add_89 : decode cX1_add 89 = .ok (.iload_n 2, 1) := by decide +kernel
theorem dX1_add_90 : decode cX1_add 90 = .ok (.iload_n 3, 1) := by decide +kernel
theorem dX1_add_91 : decode cX1_add 91 = .ok (.invokespecial 24, 3) := by decide +kernel
theorem dX1_add_94 : decode cX1_add 94 = .ok (.aastore, 1) := by decide +kernel
theorem dX1_add_95 : decode cX1_add 95 = .ok (.aload_n 0, 1) := by decide +kernel
theorem dX1_add_96 : decode cX1_add 96 = .ok (.dup, 1) := by decide +kernel
theorem dX1_add_97 : decode cX1_add 97 = .ok (.getfield 17, 3) := by decide +kernel
theorem dX1_add_100 : decode cX1_add 100 = .ok (.iconst 1, 1) := by decide +kernel
theorem dX1_add_101 : decode cX1_add 101 = .ok (.iadd, 1) := by decide +kernel
theorem dX1_add_102 : decode cX1_add 102 = .ok (.putfield 17, 3) := by decide +kernel
theorem dX1_add_105 : decode cX1_add 105 = .ok (.return_, 1) := by decide +kernel
theorem dX1_dropLatestTold_0 : decode cX1_dropLatestTold 0 = .ok (.aload_n 0, 1) := by decide +kernel
theorem dX1_dropLatestTold_1 : decode cX1_dropLatestTold 1 = .ok (.getfield 17, 3) := by decide +kernel
theorem dX1_dropLatestTold_4 : decode cX1_dropLatestTold 4 = .ok (.ifCond .gt 4, 3) := by decide +kernel
theorem dX1_dropLatestTold_7 : decode cX1_dropLatestTold 7 = .ok (.return_, 1) := by decide +kernel
theorem dX1_dropLatestTold_8 : decode cX1_dropLatestTold 8 = .ok (.iconst 0, 1) := by decide +kernel
theorem dX1_dropLatestTold_9 : decode cX1_dropLatestTold 9 = .ok (.istore_n 1, 1) := by decide +kernel
theorem dX1_dropLatestTold_10 : decode cX1_dropLatestTold 10 = .ok (.iconst 0, 1) := by decide +kernel
theorem dX1_dropLatestTold_11 : decode cX1_dropLatestTold 11 = .ok (.istore_n 2, 1) := by decide +kernel
theorem dX1_dropLatestTold_12 : decode cX1_dropLatestTold 12 = .ok (.iload_n 2, 1) := by decide +kernel
theorem dX1_dropLatestTold_13 : decode cX1_dropLatestTold 13 = .ok (.aload_n 0, 1) := by decide +kernel
theorem dX1_dropLatestTold_14 : decode cX1_dropLatestTold 14 = .ok (.getfield 11, 3) := by decide +kernel
theorem dX1_dropLatestTold_17 : decode cX1_dropLatestTold 17 = .ok (.arraylength, 1) := by decide +kernel
theorem dX1_dropLatestTold_18 : decode cX1_dropLatestTold 18 = .ok (.if_icmp .ge 50, 3) := by decide +kernel
theorem dX1_dropLatestTold_21 : decode cX1_dropLatestTold 21 = .ok (.aload_n 0, 1) := by decide +kernel
theorem dX1_dropLatestTold_22 : decode cX1_dropLatestTold 22 = .ok (.getfield 11, 3) := by decide +kernel
theorem dX1_dropLatestTold_25 : decode cX1_dropLatestTold 25 = .ok (.iload_n 2, 1) := by decide +kernel
theorem dX1_dropLatestTold_26 : decode cX1_dropLatestTold 26 = .ok (.aaload, 1) := by decide +kernel
theorem dX1_dropLatestTold_27 : decode cX1_dropLatestTold 27 = .ok (.astore_n 3, 1) := by decide +kernel
theorem dX1_dropLatestTold_28 : decode cX1_dropLatestTold 28 = .ok (.aload_n 0, 1) := by decide +kernel
theorem dX1_dropLatestTold_29 : decode cX1_dropLatestTold 29 = .ok (.getfield 11, 3) := by decide +kernel
theorem dX1_dropLatestTold_32 : decode cX1_dropLatestTold 32 = .ok (.iload_n 2, 1) := by decide +kernel
theorem dX1_dropLatestTold_33 : decode cX1_dropLatestTold 33 = .ok (.aconst_null, 1) := by decide +kernel
theorem dX1_dropLatestTold_34 : decode cX1_dropLatestTold 34 = .ok (.aastore, 1) := by decide +kernel
theorem dX1_dropLatestTold_35 : decode cX1_dropLatestTold 35 = .ok (.aload_n 3, 1) := by decide +kernel
theorem dX1_dropLatestTold_36 : decode cX1_dropLatestTold 36 = .ok (.ifnull 26, 3) := by decide +kernel
theorem dX1_dropLatestTold_39 : decode cX1_dropLatestTold 39 = .ok (.aload_n 3, 1) := by decide +kernel
theorem dX1_dropLatestTold_40 : decode cX1_dropLatestTold 40 = .ok (.getfield 27, 3) := by decide +kernel
theorem dX1_dropLatestTold_43 : decode cX1_dropLatestTold 43 = .ok (.aload_n 0, 1) := by decide +kernel
theorem dX1_dropLatestTold_44 : decode cX1_dropLatestTold 44 = .ok (.getfield 17, 3) := by decide +kernel
theorem dX1_dropLatestTold_47 : decode cX1_dropLatestTold 47 = .ok (.iconst 1, 1) := by decide +kernel
theorem dX1_dropLatestTold_48 : decode cX1_dropLatestTold 48 = .ok (.isub, 1) := by decide +kernel
theorem dX1_dropLatestTold_49 : decode cX1_dropLatestTold 49 = .ok (.if_icmp .eq 13, 3) := by decide +kernel
theorem dX1_dropLatestTold_52 : decode cX1_dropLatestTold 52 = .ok (.aload_n 0, 1) := by decide +kernel
theorem dX1_dropLatestTold_53 : decode cX1_dropLatestTold 53 = .ok (.getfield 11, 3) := by decide +kernel
theorem dX1_dropLatestTold_56 : decode cX1_dropLatestTold 56 = .ok (.iload_n 1, 1) := by decide +kernel
theorem dX1_dropLatestTold_57 : decode cX1_dropLatestTold 57 = .ok (.aload_n 3, 1) := by decide +kernel
theorem dX1_dropLatestTold_58 : decode cX1_dropLatestTold 58 = .ok (.aastore, 1) := by decide +kernel
theorem dX1_dropLatestTold_59 : decode cX1_dropLatestTold 59 = .ok (.iinc 1 1, 3) := by decide +kernel
theorem dX1_dropLatestTold_62 : decode cX1_dropLatestTold 62 = .ok (.iinc 2 1, 3) := by decide +kernel
theorem dX1_dropLatestTold_65 : decode cX1_dropLatestTold 65 = .ok (.goto (-53), 3) := by decide +kernel
theorem dX1_dropLatestTold_68 : decode cX1_dropLatestTold 68 = .ok (.aload_n 0, 1) := by decide +kernel
theorem dX1_dropLatestTold_69 : decode cX1_dropLatestTold 69 = .ok (.iload_n 1, 1) := by decide +kernel
theorem dX1_dropLatestTold_70 : decode cX1_dropLatestTold 70 = .ok (.putfield 17, 3) := by decide +kernel
theorem dX1_dropLatestTold_73 : decode cX1_dropLatestTold 73 = .ok (.return_, 1) := by decide +kernel
theorem dX1_latestOf_0 : decode cX1_latestOf 0 = .ok (.aconst_null, 1) := by decide +kernel
theorem dX1_latestOf_1 : decode cX1_latestOf 1 = .ok (.astore_n 3, 1) := by decide +kernel
theorem dX1_latestOf_2 : decode cX1_latestOf 2 = .ok (.iconst 0, 1) := by decide +kernel
theorem dX1_latestOf_3 : decode cX1_latestOf 3 = .ok (.istore 4, 2) := by decide +kernel
theorem dX1_latestOf_5 : decode cX1_latestOf 5 = .ok (.iload 4, 2) := by decide +kernel
theorem dX1_latestOf_7 : decode cX1_latestOf 7 = .ok (.aload_n 0, 1) := by decide +kernel
theorem dX1_latestOf_8 : decode cX1_latestOf 8 = .ok (.getfield 11, 3) := by decide +kernel
theorem dX1_latestOf_11 : decode cX1_latestOf 11 = .ok (.arraylength, 1) := by decide +kernel
theorem dX1_latestOf_12 : decode cX1_latestOf 12 = .ok (.if_icmp .ge 44, 3) := by decide +kernel
theorem dX1_latestOf_15 : decode cX1_latestOf 15 = .ok (.aload_n 0, 1) := by decide +kernel
theorem dX1_latestOf_16 : decode cX1_latestOf 16 = .ok (.getfield 11, 3) := by decide +kernel
theorem dX1_latestOf_19 : decode cX1_latestOf 19 = .ok (.iload 4, 2) := by decide +kernel
theorem dX1_latestOf_21 : decode cX1_latestOf 21 = .ok (.aaload, 1) := by decide +kernel
theorem dX1_latestOf_22 : decode cX1_latestOf 22 = .ok (.astore 5, 2) := by decide +kernel
theorem dX1_latestOf_24 : decode cX1_latestOf 24 = .ok (.aload 5, 2) := by decide +kernel
theorem dX1_latestOf_26 : decode cX1_latestOf 26 = .ok (.ifnull 24, 3) := by decide +kernel
theorem dX1_latestOf_29 : decode cX1_latestOf 29 = .ok (.aload 5, 2) := by decide +kernel
theorem dX1_latestOf_31 : decode cX1_latestOf 31 = .ok (.getfield 30, 3) := by decide +kernel
theorem dX1_latestOf_34 : decode cX1_latestOf 34 = .ok (.iload_n 1, 1) := by decide +kernel
theorem dX1_latestOf_35 : decode cX1_latestOf 35 = .ok (.if_icmp .ne 15, 3) := by decide +kernel
theorem dX1_latestOf_38 : decode cX1_latestOf 38 = .ok (.aload 5, 2) := by decide +kernel
theorem dX1_latestOf_40 : decode cX1_latestOf 40 = .ok (.getfield 21, 3) := by decide +kernel
theorem dX1_latestOf_43 : decode cX1_latestOf 43 = .ok (.iload_n 2, 1) := by decide +kernel
theorem dX1_latestOf_44 : decode cX1_latestOf 44 = .ok (.if_icmp .gt 6, 3) := by decide +kernel
theorem dX1_latestOf_47 : decode cX1_latestOf 47 = .ok (.aload 5, 2) := by decide +kernel
theorem dX1_latestOf_49 : decode cX1_latestOf 49 = .ok (.astore_n 3, 1) := by decide +kernel
theorem dX1_latestOf_50 : decode cX1_latestOf 50 = .ok (.iinc 4 1, 3) := by decide +kernel
theorem dX1_latestOf_53 : decode cX1_latestOf 53 = .ok (.goto (-48), 3) := by decide +kernel
theorem dX1_latestOf_56 : decode cX1_latestOf 56 = .ok (.aload_n 3, 1) := by decide +kernel
theorem dX1_latestOf_57 : decode cX1_latestOf 57 = .ok (.areturn, 1) := by decide +kernel
theorem dX1_cutDown_0 : decode cX1_cutDown 0 = .ok (.lload_n 1, 1) := by decide +kernel
theorem dX1_cutDown_1 : decode cX1_cutDown 1 = .ok (.lstore 5, 2) := by decide +kernel
theorem dX1_cutDown_3 : decode cX1_cutDown 3 = .ok (.iconst 0, 1) := by decide +kernel
theorem dX1_cutDown_4 : decode cX1_cutDown 4 = .ok (.istore 7, 2) := by decide +kernel
theorem dX1_cutDown_6 : decode cX1_cutDown 6 = .ok (.iload 7, 2) := by decide +kernel
theorem dX1_cutDown_8 : decode cX1_cutDown 8 = .ok (.aload_n 0, 1) := by decide +kernel
theorem dX1_cutDown_9 : decode cX1_cutDown 9 = .ok (.getfield 11, 3) := by decide +kernel
theorem dX1_cutDown_12 : decode cX1_cutDown 12 = .ok (.arraylength, 1) := by decide +kernel
theorem dX1_cutDown_13 : decode cX1_cutDown 13 = .ok (.if_icmp .ge 70, 3) := by decide +kernel
theorem dX1_cutDown_16 : decode cX1_cutDown 16 = .ok (.aload_n 0, 1) := by decide +kernel
theorem dX1_cutDown_17 : decode cX1_cutDown 17 = .ok (.getfield 11, 3) := by decide +kernel
theorem dX1_cutDown_20 : decode cX1_cutDown 20 = .ok (.iload 7, 2) := by decide +kernel
theorem dX1_cutDown_22 : decode cX1_cutDown 22 = .ok (.aaload, 1) := by decide +kernel
theorem dX1_cutDown_23 : decode cX1_cutDown 23 = .ok (.astore 8, 2) := by decide +kernel
theorem dX1_cutDown_25 : decode cX1_cutDown 25 = .ok (.aload 8, 2) := by decide +kernel
theorem dX1_cutDown_27 : decode cX1_cutDown 27 = .ok (.ifnull 50, 3) := by decide +kernel
theorem dX1_cutDown_30 : decode cX1_cutDown 30 = .ok (.aload 8, 2) := by decide +kernel
theorem dX1_cutDown_32 : decode cX1_cutDown 32 = .ok (.getfield 30, 3) := by decide +kernel
theorem dX1_cutDown_35 : decode cX1_cutDown 35 = .ok (.iconst 2, 1) := by decide +kernel
theorem dX1_cutDown_36 : decode cX1_cutDown 36 = .ok (.if_icmp .ne 41, 3) := by decide +kernel
theorem dX1_cutDown_39 : decode cX1_cutDown 39 = .ok (.aload 8, 2) := by decide +kernel
theorem dX1_cutDown_41 : decode cX1_cutDown 41 = .ok (.getfield 21, 3) := by decide +kernel
theorem dX1_cutDown_44 : decode cX1_cutDown 44 = .ok (.iload_n 3, 1) := by decide +kernel
theorem dX1_cutDown_45 : decode cX1_cutDown 45 = .ok (.if_icmp .lt 32, 3) := by decide +kernel
theorem dX1_cutDown_48 : decode cX1_cutDown 48 = .ok (.aload 8, 2) := by decide +kernel
theorem dX1_cutDown_50 : decode cX1_cutDown 50 = .ok (.getfield 21, 3) := by decide +kernel
theorem dX1_cutDown_53 : decode cX1_cutDown 53 = .ok (.iload 4, 2) := by decide +kernel
theorem dX1_cutDown_55 : decode cX1_cutDown 55 = .ok (.if_icmp .gt 22, 3) := by decide +kernel
theorem dX1_cutDown_58 : decode cX1_cutDown 58 = .ok (.lload 5, 2) := by decide +kernel
theorem dX1_cutDown_60 : decode cX1_cutDown 60 = .ok (.sipush 1000, 3) := by decide +kernel
theorem dX1_cutDown_63 : decode cX1_cutDown 63 = .ok (.aload 8, 2) := by decide +kernel
theorem dX1_cutDown_65 : decode cX1_cutDown 65 = .ok (.getfield 33, 3) := by decide +kernel
theorem dX1_cutDown_68 : decode cX1_cutDown 68 = .ok (.isub, 1) := by decide +kernel
theorem dX1_cutDown_69 : decode cX1_cutDown 69 = .ok (.i2l, 1) := by decide +kernel
theorem dX1_cutDown_70 : decode cX1_cutDown 70 = .ok (.lmul, 1) := by decide +kernel
theorem dX1_cutDown_71 : decode cX1_cutDown 71 = .ok (.ldc2_w 36, 3) := by decide +kernel
theorem dX1_cutDown_74 : decode cX1_cutDown 74 = .ok (.ldiv, 1) := by decide +kernel
theorem dX1_cutDown_75 : decode cX1_cutDown 75 = .ok (.lstore 5, 2) := by decide +kernel
theorem dX1_cutDown_77 : decode cX1_cutDown 77 = .ok (.iinc 7 1, 3) := by decide +kernel
theorem dX1_cutDown_80 : decode cX1_cutDown 80 = .ok (.goto (-74), 3) := by decide +kernel
theorem dX1_cutDown_83 : decode cX1_cutDown 83 = .ok (.lload 5, 2) := by decide +kernel
theorem dX1_cutDown_85 : decode cX1_cutDown 85 = .ok (.lreturn, 1) := by decide +kernel
set_option maxRecDepth 20000 in
theorem ggX1_nextChange_X8_sooner : GoodIn wsX1_nextChange wsX8_sooner := goodIn_r _ [5] (by decide +kernel) (by decide +kernel)
set_option maxRecDepth 20000 in
theorem gX1_nextChange_X8_sooner_n38 : GoodIn wsX1_nextChange (wsX8_sooner) := ggX1_nextChange_X8_sooner
theorem dX1_nextChange_0 : decode cX1_nextChange 0 = .ok (.iload_n 2, 1) := by decide +kernel
theorem dX1_nextChange_1 : decode cX1_nextChange 1 = .ok (.istore_n 3, 1) := by decide +kernel
theorem dX1_nextChange_2 : decode cX1_nextChange 2 = .ok (.iconst 0, 1) := by decide +kernel
theorem dX1_nextChange_3 : decode cX1_nextChange 3 = .ok (.istore 4, 2) := by decide +kernel
theorem dX1_nextChange_5 : decode cX1_nextChange 5 = .ok (.iload 4, 2) := by decide +kernel
theorem dX1_nextChange_7 : decode cX1_nextChange 7 = .ok (.aload_n 0, 1) := by decide +kernel
theorem dX1_nextChange_8 : decode cX1_nextChange 8 = .ok (.getfield 11, 3) := by decide +kernel
theorem dX1_nextChange_11 : decode cX1_nextChange 11 = .ok (.arraylength, 1) := by decide +kernel
theorem dX1_nextChange_12 : decode cX1_nextChange 12 = .ok (.if_icmp .ge 48, 3) := by decide +kernel
theorem dX1_nextChange_15 : decode cX1_nextChange 15 = .ok (.aload_n 0, 1) := by decide +kernel
theorem dX1_nextChange_16 : decode cX1_nextChange 16 = .ok (.getfield 11, 3) := by decide +kernel
theorem dX1_nextChange_19 : decode cX1_nextChange 19 = .ok (.iload 4, 2) := by decide +kernel
theorem dX1_nextChange_21 : decode cX1_nextChange 21 = .ok (.aaload, 1) := by decide +kernel
theorem dX1_nextChange_22 : decode cX1_nextChange 22 = .ok (.astore 5, 2) := by decide +kernel
theorem dX1_nextChange_24 : decode cX1_nextChange 24 = .ok (.aload 5, 2) := by decide +kernel
theorem dX1_nextChange_26 : decode cX1_nextChange 26 = .ok (.ifnull 28, 3) := by decide +kernel
theorem dX1_nextChange_29 : decode cX1_nextChange 29 = .ok (.aload 5, 2) := by decide +kernel
theorem dX1_nextChange_31 : decode cX1_nextChange 31 = .ok (.getfield 21, 3) := by decide +kernel
theorem dX1_nextChange_34 : decode cX1_nextChange 34 = .ok (.iload_n 1, 1) := by decide +kernel
theorem dX1_nextChange_35 : decode cX1_nextChange 35 = .ok (.iload_n 3, 1) := by decide +kernel
theorem dX1_nextChange_36 : decode cX1_nextChange 36 = .ok (.invokestatic 38, 3) := by decide +kernel
theorem dX1_nextChange_39 : decode cX1_nextChange 39 = .ok (.istore_n 3, 1) := by decide +kernel
theorem dX1_nextChange_40 : decode cX1_nextChange 40 = .ok (.aload 5, 2) := by decide +kernel
theorem dX1_nextChange_42 : decode cX1_nextChange 42 = .ok (.getfield 21, 3) := by decide +kernel
theorem dX1_nextChange_45 : decode cX1_nextChange 45 = .ok (.bipush 90, 2) := by decide +kernel
theorem dX1_nextChange_47 : decode cX1_nextChange 47 = .ok (.iadd, 1) := by decide +kernel
theorem dX1_nextChange_48 : decode cX1_nextChange 48 = .ok (.iload_n 1, 1) := by decide +kernel
theorem dX1_nextChange_49 : decode cX1_nextChange 49 = .ok (.iload_n 3, 1) := by decide +kernel
theorem dX1_nextChange_50 : decode cX1_nextChange 50 = .ok (.invokestatic 38, 3) := by decide +kernel
theorem dX1_nextChange_53 : decode cX1_nextChange 53 = .ok (.istore_n 3, 1) := by decide +kernel
theorem dX1_nextChange_54 : decode cX1_nextChange 54 = .ok (.iinc 4 1, 3) := by decide +kernel
theorem dX1_nextChange_57 : decode cX1_nextChange 57 = .ok (.goto (-52), 3) := by decide +kernel
theorem dX1_nextChange_60 : decode cX1_nextChange 60 = .ok (.iload_n 3, 1) := by decide +kernel
theorem dX1_nextChange_61 : decode cX1_nextChange 61 = .ok (.ireturn, 1) := by decide +kernel
set_option maxRecDepth 20000 in
theorem ggX2_init_X1_init : GoodIn wsX2_init wsX1_init := goodIn_r _ [16, 17, 2, 3, 18, 19, 27, 28] (by decide +kernel) (by decide +kernel)
set_option maxRecDepth 20000 in
theorem gX2_init_X1_init : GoodIn wsX2_init (wsX1_init) := ggX2_init_X1_init
theorem dX2_init_0 : decode cX2_init 0 = .ok (.aload_n 0, 1) := by decide +kernel
theorem dX2_init_1 : decode cX2_init 1 = .ok (.invokespecial 3, 3) := by decide +kernel
theorem dX2_init_4 : decode cX2_init 4 = .ok (.aload_n 0, 1) := by decide +kernel
theorem dX2_init_5 : decode cX2_init 5 = .ok (.iload_n 1, 1) := by decide +kernel
theorem dX2_init_6 : decode cX2_init 6 = .ok (.putfield 9, 3) := by decide +kernel
theorem dX2_init_9 : decode cX2_init 9 = .ok (.aload_n 0, 1) := by decide +kernel
theorem dX2_init_10 : decode cX2_init 10 = .ok (.iload_n 2, 1) := by decide +kernel
theorem dX2_init_11 : decode cX2_init 11 = .ok (.putfield 15, 3) := by decide +kernel
theorem dX2_init_14 : decode cX2_init 14 = .ok (.aload_n 0, 1) := by decide +kernel
theorem dX2_init_15 : decode cX2_init 15 = .ok (.iload_n 3, 1) := by decide +kernel
theorem dX2_init_16 : decode cX2_init 16 = .ok (.putfield 18, 3) := by decide +kernel
theorem dX2_init_19 : decode cX2_init 19 = .ok (.aload_n 0, 1) := by decide +kernel
theorem dX2_init_20 : decode cX2_init 20 = .ok (.iload 4, 2) := by decide +kernel
theorem dX2_init_22 : decode cX2_init 22 = .ok (.putfield 21, 3) := by decide +kernel
theorem dX2_init_25 : decode cX2_init 25 = .ok (.aload_n 0, 1) := by decide +kernel
theorem dX2_init_26 : decode cX2_init 26 = .ok (.iload 5, 2) := by decide +kernel
theorem dX2_init_28 : decode cX2_init 28 = .ok (.putfield 24, 3) := by decide +kernel
theorem dX2_init_31 : decode cX2_init 31 = .ok (.aload_n 0, 1) := by decide +kernel
theorem dX2_init_32 : decode cX2_init 32 = .ok (.iload 6, 2) := by decide +kernel
theorem dX2_init_34 : decode cX2_init 34 = .ok (.putfield 27, 3) := by decide +kernel
theorem dX2_init_37 : decode cX2_init 37 = .ok (.aload_n 0, 1) := by decide +kernel
theorem dX2_init_38 : decode cX2_init 38 = .ok (.new 30, 3) := by decide +kernel
theorem dX2_init_41 : decode cX2_init 41 = .ok (.dup, 1) := by decide +kernel
theorem dX2_init_42 : decode cX2_init 42 = .ok (.invokespecial 32, 3) := by decide +kernel
theorem dX2_init_45 : decode cX2_init 45 = .ok (.putfield 33, 3) := by decide +kernel
theorem dX2_init_48 : decode cX2_init 48 = .ok (.return_, 1) := by decide +kernel
theorem dX2_isLike_0 : decode cX2_isLike 0 = .ok (.aload_n 0, 1) := by decide +kernel
theorem dX2_isLike_1 : decode cX2_isLike 1 = .ok (.getfield 18, 3) := by decide +kernel
theorem dX2_isLike_4 : decode cX2_isLike 4 = .ok (.aload_n 1, 1) := by decide +kernel
theorem dX2_isLike_5 : decode cX2_isLike 5 = .ok (.getfield 18, 3) := by decide +kernel
theorem dX2_isLike_8 : decode cX2_isLike 8 = .ok (.if_icmp .ne 18, 3) := by decide +kernel
theorem dX2_isLike_11 : decode cX2_isLike 11 = .ok (.aload_n 0, 1) := by decide +kernel
theorem dX2_isLike_12 : decode cX2_isLike 12 = .ok (.getfield 21, 3) := by decide +kernel
theorem dX2_isLike_15 : decode cX2_isLike 15 = .ok (.aload_n 1, 1) := by decide +kernel
theorem dX2_isLike_16 : decode cX2_isLike 16 = .ok (.getfield 21, 3) := by decide +kernel
theorem dX2_isLike_19 : decode cX2_isLike 19 = .ok (.if_icmp .ne 7, 3) := by decide +kernel
theorem dX2_isLike_22 : decode cX2_isLike 22 = .ok (.iconst 1, 1) := by decide +kernel
theorem dX2_isLike_23 : decode cX2_isLike 23 = .ok (.goto 4, 3) := by decide +kernel
theorem dX2_isLike_26 : decode cX2_isLike 26 = .ok (.iconst 0, 1) := by decide +kernel
theorem dX2_isLike_27 : decode cX2_isLike 27 = .ok (.ireturn, 1) := by decide +kernel
theorem dX2_tells_0 : decode cX2_tells 0 = .ok (.aload_n 0, 1) := by decide +kernel
theorem dX2_tells_1 : decode cX2_tells 1 = .ok (.getfield 27, 3) := by decide +kernel
theorem dX2_tells_4 : decode cX2_tells 4 = .ok (.ifCond .le 36, 3) := by decide +kernel
theorem dX2_tells_7 : decode cX2_tells 7 = .ok (.aload_n 0, 1) := by decide +kernel
theorem dX2_tells_8 : decode cX2_tells 8 = .ok (.getfield 9, 3) := by decide +kernel
theorem dX2_tells_11 : decode cX2_tells 11 = .ok (.iload_n 3, 1) := by decide +kernel
theorem dX2_tells_12 : decode cX2_tells 12 = .ok (.if_icmp .eq 28, 3) := by decide +kernel
theorem dX2_tells_15 : decode cX2_tells 15 = .ok (.aload_n 0, 1) := by decide +kernel
theorem dX2_tells_16 : decode cX2_tells 16 = .ok (.getfield 18, 3) := by decide +kernel
theorem dX2_tells_19 : decode cX2_tells 19 = .ok (.iload_n 1, 1) := by decide +kernel
theorem dX2_tells_20 : decode cX2_tells 20 = .ok (.if_icmp .ne 20, 3) := by decide +kernel
theorem dX2_tells_23 : decode cX2_tells 23 = .ok (.iload_n 2, 1) := by decide +kernel
theorem dX2_tells_24 : decode cX2_tells 24 = .ok (.iconst (-1), 1) := by decide +kernel
theorem dX2_tells_25 : decode cX2_tells 25 = .ok (.if_icmp .eq 11, 3) := by decide +kernel
theorem dX2_tells_28 : decode cX2_tells 28 = .ok (.aload_n 0, 1) := by decide +kernel
theorem dX2_tells_29 : decode cX2_tells 29 = .ok (.getfield 21, 3) := by decide +kernel
theorem dX2_tells_32 : decode cX2_tells 32 = .ok (.iload_n 2, 1) := by decide +kernel
theorem dX2_tells_33 : decode cX2_tells 33 = .ok (.if_icmp .ne 7, 3) := by decide +kernel
theorem dX2_tells_36 : decode cX2_tells 36 = .ok (.iconst 1, 1) := by decide +kernel
theorem dX2_tells_37 : decode cX2_tells 37 = .ok (.goto 4, 3) := by decide +kernel
theorem dX2_tells_40 : decode cX2_tells 40 = .ok (.iconst 0, 1) := by decide +kernel
theorem dX2_tells_41 : decode cX2_tells 41 = .ok (.ireturn, 1) := by decide +kernel
theorem dX2_hasLesserRent_0 : decode cX2_hasLesserRent 0 = .ok (.aload_n 0, 1) := by decide +kernel
theorem dX2_hasLesserRent_1 : decode cX2_hasLesserRent 1 = .ok (.getfield 27, 3) := by decide +kernel
theorem dX2_hasLesserRent_4 : decode cX2_hasLesserRent 4 = .ok (.i2l, 1) := by decide +kernel
theorem dX2_hasLesserRent_5 : decode cX2_hasLesserRent 5 = .ok (.aload_n 1, 1) := by decide +kernel
theorem dX2_hasLesserRent_6 : decode cX2_hasLesserRent 6 = .ok (.getfield 24, 3) := by decide +kernel
theorem dX2_hasLesserRent_9 : decode cX2_hasLesserRent 9 = .ok (.i2l, 1) := by decide +kernel
theorem dX2_hasLesserRent_10 : decode cX2_hasLesserRent 10 = .ok (.lmul, 1) := by decide +kernel
theorem dX2_hasLesserRent_11 : decode cX2_hasLesserRent 11 = .ok (.lstore_n 2, 1) := by decide +kernel
theorem dX2_hasLesserRent_12 : decode cX2_hasLesserRent 12 = .ok (.aload_n 1, 1) := by decide +kernel
theorem dX2_hasLesserRent_13 : decode cX2_hasLesserRent 13 = .ok (.getfield 27, 3) := by decide +kernel
theorem dX2_hasLesserRent_16 : decode cX2_hasLesserRent 16 = .ok (.i2l, 1) := by decide +kernel
theorem dX2_hasLesserRent_17 : decode cX2_hasLesserRent 17 = .ok (.aload_n 0, 1) := by decide +kernel
theorem dX2_hasLesserRent_18 : decode cX2_hasLesserRent 18 = .ok (.getfield 24, 3) := by decide +kernel
theorem dX2_hasLesserRent_21 : decode cX2_hasLesserRent 21 = .ok (.i2l, 1) := by decide +kernel
theorem dX2_hasLesserRent_22 : decode cX2_hasLesserRent 22 = .ok (.lmul, 1) := by decide +kernel
theorem dX2_hasLesserRent_23 : decode cX2_hasLesserRent 23 = .ok (.lstore 4, 2) := by decide +kernel
theorem dX2_hasLesserRent_25 : decode cX2_hasLesserRent 25 = .ok (.lload_n 2, 1) := by decide +kernel
theorem dX2_hasLesserRent_26 : decode cX2_hasLesserRent 26 = .ok (.lload 4, 2) := by decide +kernel
theorem dX2_hasLesserRent_28 : decode cX2_hasLesserRent 28 = .ok (.lcmp, 1) := by decide +kernel
theorem dX2_hasLesserRent_29 : decode cX2_hasLesserRent 29 = .ok (.ifCond .lt 21, 3) := by decide +kernel
theorem dX2_hasLesserRent_32 : decode cX2_hasLesserRent 32 = .ok (.lload_n 2, 1) := by decide +kernel
theorem dX2_hasLesserRent_33 : decode cX2_hasLesserRent 33 = .ok (.lload 4, 2) := by decide +kernel
theorem dX2_hasLesserRent_35 : decode cX2_hasLesserRent 35 = .ok (.lcmp, 1) := by decide +kernel
theorem dX2_hasLesserRent_36 : decode cX2_hasLesserRent 36 = .ok (.ifCond .ne 18, 3) := by decide +kernel
theorem dX2_hasLesserRent_39 : decode cX2_hasLesserRent 39 = .ok (.aload_n 0, 1) := by decide +kernel
theorem dX2_hasLesserRent_40 : decode cX2_hasLesserRent 40 = .ok (.getfield 9, 3) := by decide +kernel
theorem dX2_hasLesserRent_43 : decode cX2_hasLesserRent 43 = .ok (.aload_n 1, 1) := by decide +kernel
theorem dX2_hasLesserRent_44 : decode cX2_hasLesserRent 44 = .ok (.getfield 9, 3) := by decide +kernel
theorem dX2_hasLesserRent_47 : decode cX2_hasLesserRent 47 = .ok (.if_icmp .ge 7, 3) := by decide +kernel
theorem dX2_hasLesserRent_50 : decode cX2_hasLesserRent 50 = .ok (.iconst 1, 1) := by decide +kernel
theorem dX2_hasLesserRent_51 : decode cX2_hasLesserRent 51 = .ok (.goto 4, 3) := by decide +kernel
theorem dX2_hasLesserRent_54 : decode cX2_hasLesserRent 54 = .ok (.iconst 0, 1) := by decide +kernel
theorem dX2_hasLesserRent_55 : decode cX2_hasLesserRent 55 = .ok (.ireturn, 1) := by decide +kernel
set_option maxRecDepth 20000 in
theorem ggX2_sizeOn_X1_latestOf : GoodIn wsX2_sizeOn wsX1_latestOf := goodIn_r _ [8, 9, 10, 11, 23, 24, 19, 20, 21, 22] (by decide +kernel) (by decide +kernel)
set_option maxRecDepth 20000 in
theorem gX2_sizeOn_X1_latestOf : GoodIn wsX2_sizeOn (wsV RX2 37 RX1 yX1_latestOf wsX1_latestOf) := goodIn_app (goodIn_of _ (by decide +kernel)) ggX2_sizeOn_X1_latestOf
theorem dX2_sizeOn_0 : decode cX2_sizeOn 0 = .ok (.aload_n 0, 1) := by decide +kernel
theorem dX2_sizeOn_1 : decode cX2_sizeOn 1 = .ok (.getfield 33, 3) := by decide +kernel
theorem dX2_sizeOn_4 : decode cX2_sizeOn 4 = .ok (.iconst 0, 1) := by decide +kernel
theorem dX2_sizeOn_5 : decode cX2_sizeOn 5 = .ok (.iload_n 1, 1) := by decide +kernel
theorem dX2_sizeOn_6 : decode cX2_sizeOn 6 = .ok (.invokevirtual 37, 3) := by decide +kernel
theorem dX2_sizeOn_9 : decode cX2_sizeOn 9 = .ok (.astore_n 2, 1) := by decide +kernel
theorem dX2_sizeOn_10 : decode cX2_sizeOn 10 = .ok (.aload_n 2, 1) := by decide +kernel
theorem dX2_sizeOn_11 : decode cX2_sizeOn 11 = .ok (.ifnonnull 10, 3) := by decide +kernel
theorem dX2_sizeOn_14 : decode cX2_sizeOn 14 = .ok (.aload_n 0, 1) := by decide +kernel
theorem dX2_sizeOn_15 : decode cX2_sizeOn 15 = .ok (.getfield 24, 3) := by decide +kernel
theorem dX2_sizeOn_18 : decode cX2_sizeOn 18 = .ok (.goto 7, 3) := by decide +kernel
theorem dX2_sizeOn_21 : decode cX2_sizeOn 21 = .ok (.aload_n 2, 1) := by decide +kernel
theorem dX2_sizeOn_22 : decode cX2_sizeOn 22 = .ok (.getfield 41, 3) := by decide +kernel
theorem dX2_sizeOn_25 : decode cX2_sizeOn 25 = .ok (.ireturn, 1) := by decide +kernel
set_option maxRecDepth 20000 in
theorem ggX2_useOn_X1_latestOf : GoodIn wsX2_useOn wsX1_latestOf := goodIn_r _ [7, 8, 9, 10, 22, 23, 18, 19, 20, 21] (by decide +kernel) (by decide +kernel)
set_option maxRecDepth 20000 in
theorem gX2_useOn_X1_latestOf : GoodIn wsX2_useOn (wsV RX2 37 RX1 yX1_latestOf wsX1_latestOf) := goodIn_app (goodIn_of _ (by decide +kernel)) ggX2_useOn_X1_latestOf
theorem dX2_useOn_0 : decode cX2_useOn 0 = .ok (.aload_n 0, 1) := by decide +kernel
theorem dX2_useOn_1 : decode cX2_useOn 1 = .ok (.getfield 33, 3) := by decide +kernel
theorem dX2_useOn_4 : decode cX2_useOn 4 = .ok (.iconst 1, 1) := by decide +kernel
theorem dX2_useOn_5 : decode cX2_useOn 5 = .ok (.iload_n 1, 1) := by decide +kernel
theorem dX2_useOn_6 : decode cX2_useOn 6 = .ok (.invokevirtual 37, 3) := by decide +kernel
theorem dX2_useOn_9 : decode cX2_useOn 9 = .ok (.astore_n 2, 1) := by decide +kernel
theorem dX2_useOn_10 : decode cX2_useOn 10 = .ok (.aload_n 2, 1) := by decide +kernel
theorem dX2_useOn_11 : decode cX2_useOn 11 = .ok (.ifnonnull 7, 3) := by decide +kernel
theorem dX2_useOn_14 : decode cX2_useOn 14 = .ok (.iconst 0, 1) := by decide +kernel
theorem dX2_useOn_15 : decode cX2_useOn 15 = .ok (.goto 7, 3) := by decide +kernel
theorem dX2_useOn_18 : decode cX2_useOn 18 = .ok (.aload_n 2, 1) := by decide +kernel
theorem dX2_useOn_19 : decode cX2_useOn 19 = .ok (.getfield 41, 3) := by decide +kernel
theorem dX2_useOn_22 : decode cX2_useOn 22 = .ok (.ireturn, 1) := by decide +kernel
theorem dX3_init_0 : decode cX3_init 0 = .ok (.aload_n 0, 1) := by decide +kernel
theorem dX3_init_1 : decode cX3_init 1 = .ok (.invokespecial 3, 3) := by decide +kernel
theorem dX3_init_4 : decode cX3_init 4 = .ok (.aload_n 0, 1) := by decide +kernel
theorem dX3_init_5 : decode cX3_init 5 = .ok (.bipush 10, 2) := by decide +kernel
theorem dX3_init_7 : decode cX3_init 7 = .ok (.anewarray 9, 3) := by decide +kernel
theorem dX3_init_10 : decode cX3_init 10 = .ok (.putfield 11, 3) := by decide +kernel
theorem dX3_init_13 : decode cX3_init 13 = .ok (.return_, 1) := by decide +kernel
theorem dX3_at_0 : decode cX3_at 0 = .ok (.iload_n 1, 1) := by decide +kernel
theorem dX3_at_1 : decode cX3_at 1 = .ok (.ifCond .lt 21, 3) := by decide +kernel
theorem dX3_at_4 : decode cX3_at 4 = .ok (.iload_n 1, 1) := by decide +kernel
theorem dX3_at_5 : decode cX3_at 5 = .ok (.aload_n 0, 1) := by decide +kernel
theorem dX3_at_6 : decode cX3_at 6 = .ok (.getfield 11, 3) := by decide +kernel
theorem dX3_at_9 : decode cX3_at 9 = .ok (.arraylength, 1) := by decide +kernel
theorem dX3_at_10 : decode cX3_at 10 = .ok (.if_icmp .ge 12, 3) := by decide +kernel
theorem dX3_at_13 : decode cX3_at 13 = .ok (.aload_n 0, 1) := by decide +kernel
theorem dX3_at_14 : decode cX3_at 14 = .ok (.getfield 11, 3) := by decide +kernel
theorem dX3_at_17 : decode cX3_at 17 = .ok (.iload_n 1, 1) := by decide +kernel
theorem dX3_at_18 : decode cX3_at 18 = .ok (.aaload, 1) := by decide +kernel
theorem dX3_at_19 : decode cX3_at 19 = .ok (.goto 4, 3) := by decide +kernel
theorem dX3_at_22 : decode cX3_at 22 = .ok (.aconst_null, 1) := by decide +kernel
theorem dX3_at_23 : decode cX3_at 23 = .ok (.areturn, 1) := by decide +kernel
theorem dX3_isFull_0 : decode cX3_isFull 0 = .ok (.aload_n 0, 1) := by decide +kernel
theorem dX3_isFull_1 : decode cX3_isFull 1 = .ok (.getfield 17, 3) := by decide +kernel
theorem dX3_isFull_4 : decode cX3_isFull 4 = .ok (.aload_n 0, 1) := by decide +kernel
theorem dX3_isFull_5 : decode cX3_isFull 5 = .ok (.getfield 11, 3) := by decide +kernel
theorem dX3_isFull_8 : decode cX3_isFull 8 = .ok (.arraylength, 1) := by decide +kernel
theorem dX3_isFull_9 : decode cX3_isFull 9 = .ok (.if_icmp .lt 7, 3) := by decide +kernel
theorem dX3_isFull_12 : decode cX3_isFull 12 = .ok (.iconst 1, 1) := by decide +kernel
theorem dX3_isFull_13 : decode cX3_isFull 13 = .ok (.goto 4, 3) := by decide +kernel
theorem dX3_isFull_16 : decode cX3_isFull 16 = .ok (.iconst 0, 1) := by decide +kernel
theorem dX3_isFull_17 : decode cX3_isFull 17 = .ok (.ireturn, 1) := by decide +kernel
set_option maxRecDepth 20000 in
theorem ggX3_reach_X3_at : GoodIn wsX3_reach wsX3_at := goodIn_r _ [7, 8, 9, 10] (by decide +kernel) (by decide +kernel)
set_option maxRecDepth 20000 in
theorem gX3_reach_X3_at : GoodIn wsX3_reach (wsV RX3 21 RX3 yX3_at wsX3_at) := goodIn_app (goodIn_of _ (by decide +kernel)) ggX3_reach_X3_at
theorem dX3_reach_0 : decode cX3_reach 0 = .ok (.aload_n 0, 1) := by decide +kernel
theorem dX3_reach_1 : decode cX3_reach 1 = .ok (.aload_n 0, 1) := by decide +kernel
theorem dX3_reach_2 : decode cX3_reach 2 = .ok (.getfield 17, 3) := by decide +kernel
theorem dX3_reach_5 : decode cX3_reach 5 = .ok (.iconst 1, 1) := by decide +kernel
theorem dX3_reach_6 : decode cX3_reach 6 = .ok (.isub, 1) := by decide +kernel
theorem dX3_reach_7 : decode cX3_reach 7 = .ok (.invokevirtual 21, 3) := by decide +kernel
theorem dX3_reach_10 : decode cX3_reach 10 = .ok (.astore_n 2, 1) := by decide +kernel
theorem dX3_reach_11 : decode cX3_reach 11 = .ok (.aload_n 2, 1) := by decide +kernel
theorem dX3_reach_12 : decode cX3_reach 12 = .ok (.ifnull 15, 3) := by decide +kernel
theorem dX3_reach_15 : decode cX3_reach 15 = .ok (.aload_n 2, 1) := by decide +kernel
theorem dX3_reach_16 : decode cX3_reach 16 = .ok (.getfield 25, 3) := by decide +kernel
theorem dX3_reach_19 : decode cX3_reach 19 = .ok (.iload_n 1, 1) := by decide +kernel
theorem dX3_reach_20 : decode cX3_reach 20 = .ok (.if_icmp .lt 7, 3) := by decide +kernel
theorem dX3_reach_23 : decode cX3_reach 23 = .ok (.iconst 1, 1) := by decide +kernel
theorem dX3_reach_24 : decode cX3_reach 24 = .ok (.goto 4, 3) := by decide +kernel
theorem dX3_reach_27 : decode cX3_reach 27 = .ok (.iconst 0, 1) := by decide +kernel
theorem dX3_reach_28 : decode cX3_reach 28 = .ok (.ireturn, 1) := by decide +kernel
set_option maxRecDepth 20000 in
theorem ggX3_add_X4_init : GoodIn wsX3_add wsX4_init := goodIn_r _ [8, 9, 10, 11, 12, 13, 14, 15, 16, 17, 18, 19, 20, 21, 22, 23, 24, 25, 26, 27, 28, 29, 30, 31, 32, 33, 34, 35, 36, 37, 38, 39, 40, 41, 42, 43, 44, 45, 46, 47, 48, 49, 50, 51, 52, 53, 54, 55, 56, 57, 58, 59, 60, 63, 64, 65, 66, 67, 68, 69, 70, 71, 72, 73, 74, 75, 76, 77] (by decide +kernel) (by decide +kernel)
set_option maxRecDepth 20000 in
theorem gX3_add_X4_init : GoodIn wsX3_add (wsX4_init) := ggX3_add_X4_init
theorem dX3_add_0 : decode cX3_add 0 = .ok (.aload_n 0, 1) := by decide +kernel
theorem dX3_add_1 : decode cX3_add 1 = .ok (.getfield 17, 3) := by decide +kernel
theorem dX3_add_4 : decode cX3_add 4 = .ok (.istore_n 3, 1) := by decide +kernel
theorem dX3_add_5 : decode cX3_add 5 = .ok (.iload_n 3, 1) := by decide +kernel
theorem dX3_add_6 : decode cX3_add 6 = .ok (.ifCond .lt 12, 3) := by decide +kernel
theorem dX3_add_9 : decode cX3_add 9 = .ok (.iload_n 3, 1) := by decide +kernel
theorem dX3_add_10 : decode cX3_add 10 = .ok (.aload_n 0, 1) := by decide +kernel
theorem dX3_add_11 : decode cX3_add 11 = .ok (.getfield 11, 3) := by decide +kernel
theorem dX3_add_14 : decode cX3_add 14 = .ok (.arraylength, 1) := by decide +kernel
theorem dX3_add_15 : decode cX3_add 15 = .ok (.if_icmp .lt 6, 3) := by decide +kernel
theorem dX3_add_18 : decode cX3_add 18 = .ok (.bipush (-3), 2) := by decide +kernel
theorem dX3_add_20 : decode cX3_add 20 = .ok (.ireturn, 1) := by decide +kernel
theorem dX3_add_21 : decode cX3_add 21 = .ok (.aload_n 0, 1) := by decide +kernel
theorem dX3_add_22 : decode cX3_add 22 = .ok (.getfield 11, 3) := by decide +kernel
theorem dX3_add_25 : decode cX3_add 25 = .ok (.iload_n 3, 1) := by decide +kernel
theorem dX3_add_26 : decode cX3_add 26 = .ok (.new 9, 3) := by decide +kernel
theorem dX3_add_29 : decode cX3_add 29 = .ok (.dup, 1) := by decide +kernel
theorem dX3_add_30 : decode cX3_add 30 = .ok (.iload_n 1, 1) := by decide +kernel
theorem dX3_add_31 : decode cX3_add 31 = .ok (.aload_n 2, 1) := by decide +kernel
theorem dX3_add_32 : decode cX3_add 32 = .ok (.invokespecial 28, 3) := by decide +kernel
theorem dX3_add_35 : decode cX3_add 35 = .ok (.aastore, 1) := by decide +kernel
theorem dX3_add_36 : decode cX3_add 36 = .ok (.aload_n 0, 1) := by decide +kernel
theorem dX3_add_37 : decode cX3_add 37 = .ok (.dup, 1) := by decide +kernel
theorem dX3_add_38 : decode cX3_add 38 = .ok (.getfield 17, 3) := by decide +kernel
theorem dX3_add_41 : decode cX3_add 41 = .ok (.iconst 1, 1) := by decide +kernel
theorem dX3_add_42 : decode cX3_add 42 = .ok (.iadd, 1) := by decide +kernel
theorem dX3_add_43 : decode cX3_add 43 = .ok (.putfield 17, 3) := by decide +kernel
theorem dX3_add_46 : decode cX3_add 46 = .ok (.iload_n 3, 1) := by decide +kernel
theorem dX3_add_47 : decode cX3_add 47 = .ok (.ireturn, 1) := by decide +kernel
theorem dX3_standingOn_0 : decode cX3_standingOn 0 = .ok (.bipush (-4), 2) := by decide +kernel
theorem dX3_standingOn_2 : decode cX3_standingOn 2 = .ok (.istore_n 2, 1) := by decide +kernel
theorem dX3_standingOn_3 : decode cX3_standingOn 3 = .ok (.iconst 0, 1) := by decide +kernel
theorem dX3_standingOn_4 : decode cX3_standingOn 4 = .ok (.istore_n 3, 1) := by decide +kernel
theorem dX3_standingOn_5 : decode cX3_standingOn 5 = .ok (.iload_n 3, 1) := by decide +kernel
theorem dX3_standingOn_6 : decode cX3_standingOn 6 = .ok (.aload_n 0, 1) := by decide +kernel
theorem dX3_standingOn_7 : decode cX3_standingOn 7 = .ok (.getfield 11, 3) := by decide +kernel
theorem dX3_standingOn_10 : decode cX3_standingOn 10 = .ok (.arraylength, 1) := by decide +kernel
theorem dX3_standingOn_11 : decode cX3_standingOn 11 = .ok (.if_icmp .ge 33, 3) := by decide +kernel
theorem dX3_standingOn_14 : decode cX3_standingOn 14 = .ok (.aload_n 0, 1) := by decide +kernel
theorem dX3_standingOn_15 : decode cX3_standingOn 15 = .ok (.getfield 11, 3) := by decide +kernel
theorem dX3_standingOn_18 : decode cX3_standingOn 18 = .ok (.iload_n 3, 1) := by decide +kernel
theorem dX3_standingOn_19 : decode cX3_standingOn 19 = .ok (.aaload, 1) := by decide +kernel
theorem dX3_standingOn_20 : decode cX3_standingOn 20 = .ok (.astore 4, 2) := by decide +kernel
theorem dX3_standingOn_22 : decode cX3_standingOn 22 = .ok (.aload 4, 2) := by decide +kernel
theorem dX3_standingOn_24 : decode cX3_standingOn 24 = .ok (.ifnull 14, 3) := by decide +kernel
theorem dX3_standingOn_27 : decode cX3_standingOn 27 = .ok (.aload 4, 2) := by decide +kernel
theorem dX3_standingOn_29 : decode cX3_standingOn 29 = .ok (.getfield 25, 3) := by decide +kernel
theorem dX3_standingOn_32 : decode cX3_standingOn 32 = .ok (.iload_n 1, 1) := by decide +kernel
theorem dX3_standingOn_33 : decode cX3_standingOn 33 = .ok (.if_icmp .gt 5, 3) := by decide +kernel
theorem dX3_standingOn_36 : decode cX3_standingOn 36 = .ok (.iload_n 3, 1) := by decide +kernel
theorem dX3_standingOn_37 : decode cX3_standingOn 37 = .ok (.istore_n 2, 1) := by decide +kernel
theorem dX3_standingOn_38 : decode cX3_standingOn 38 = .ok (.iinc 3 1, 3) := by decide +kernel
theorem dX3_standingOn_41 : decode cX3_standingOn 41 = .ok (.goto (-36), 3) := by decide +kernel
theorem dX3_standingOn_44 : decode cX3_standingOn 44 = .ok (.iload_n 2, 1) := by decide +kernel
theorem dX3_standingOn_45 : decode cX3_standingOn 45 = .ok (.ireturn, 1) := by decide +kernel
set_option maxRecDepth 20000 in
theorem ggX3_nextChange_X8_sooner : GoodIn wsX3_nextChange wsX8_sooner := goodIn_r _ [5] (by decide +kernel) (by decide +kernel)
set_option maxRecDepth 20000 in
theorem gX3_nextChange_X8_sooner_n31 : GoodIn wsX3_nextChange (wsX8_sooner) := ggX3_nextChange_X8_sooner
theorem dX3_nextChange_0 : decode cX3_nextChange 0 = .ok (.iload_n 2, 1) := by decide +kernel
theorem dX3_nextChange_1 : decode cX3_nextChange 1 = .ok (.istore_n 3, 1) := by decide +kernel
theorem dX3_nextChange_2 : decode cX3_nextChange 2 = .ok (.iconst 0, 1) := by decide +kernel
theorem dX3_nextChange_3 : decode cX3_nextChange 3 = .ok (.istore 4, 2) := by decide +kernel
theorem dX3_nextChange_5 : decode cX3_nextChange 5 = .ok (.iload 4, 2) := by decide +kernel
theorem dX3_nextChange_7 : decode cX3_nextChange 7 = .ok (.aload_n 0, 1) := by decide +kernel
theorem dX3_nextChange_8 : decode cX3_nextChange 8 = .ok (.getfield 11, 3) := by decide +kernel
theorem dX3_nextChange_11 : decode cX3_nextChange 11 = .ok (.arraylength, 1) := by decide +kernel
theorem dX3_nextChange_12 : decode cX3_nextChange 12 = .ok (.if_icmp .ge 34, 3) := by decide +kernel
theorem dX3_nextChange_15 : decode cX3_nextChange 15 = .ok (.aload_n 0, 1) := by decide +kernel
theorem dX3_nextChange_16 : decode cX3_nextChange 16 = .ok (.getfield 11, 3) := by decide +kernel
theorem dX3_nextChange_19 : decode cX3_nextChange 19 = .ok (.iload 4, 2) := by decide +kernel
theorem dX3_nextChange_21 : decode cX3_nextChange 21 = .ok (.aaload, 1) := by decide +kernel
theorem dX3_nextChange_22 : decode cX3_nextChange 22 = .ok (.astore 5, 2) := by decide +kernel
theorem dX3_nextChange_24 : decode cX3_nextChange 24 = .ok (.aload 5, 2) := by decide +kernel
theorem dX3_nextChange_26 : decode cX3_nextChange 26 = .ok (.ifnull 14, 3) := by decide +kernel
theorem dX3_nextChange_29 : decode cX3_nextChange 29 = .ok (.aload 5, 2) := by decide +kernel
theorem dX3_nextChange_31 : decode cX3_nextChange 31 = .ok (.getfield 25, 3) := by decide +kernel
theorem dX3_nextChange_34 : decode cX3_nextChange 34 = .ok (.iload_n 1, 1) := by decide +kernel
theorem dX3_nextChange_35 : decode cX3_nextChange 35 = .ok (.iload_n 3, 1) := by decide +kernel
theorem dX3_nextChange_36 : decode cX3_nextChange 36 = .ok (.invokestatic 31, 3) := by decide +kernel
theorem dX3_nextChange_39 : decode cX3_nextChange 39 = .ok (.istore_n 3, 1) := by decide +kernel
theorem dX3_nextChange_40 : decode cX3_nextChange 40 = .ok (.iinc 4 1, 3) := by decide +kernel
theorem dX3_nextChange_43 : decode cX3_nextChange 43 = .ok (.goto (-38), 3) := by decide +kernel
theorem dX3_nextChange_46 : decode cX3_nextChange 46 = .ok (.iload_n 3, 1) := by decide +kernel
theorem dX3_nextChange_47 : decode cX3_nextChange 47 = .ok (.ireturn, 1) := by decide +kernel
set_option maxRecDepth 20000 in
theorem ggX4_init_X5_unitOf : GoodIn wsX4_init wsX5_unitOf := goodIn_r _ [11, 12, 13, 14, 15, 16, 17, 18, 19, 20, 10, 21, 22, 23, 24, 25, 26, 27, 28, 29, 30, 31, 32, 33, 34, 35, 36, 37, 38, 39, 40, 41, 42, 43, 44, 45, 46, 47, 48, 2, 3, 49, 50, 51, 52, 55, 56, 57, 58, 59, 60, 61, 62, 63, 64, 65, 66, 67] (by decide +kernel) (by decide +kernel)
set_option maxRecDepth 20000 in
theorem gX4_init_X5_unitOf : GoodIn wsX4_init (wsV RX4 21 RX5 yX5_unitOf wsX5_unitOf) := goodIn_app (goodIn_of _ (by decide +kernel)) ggX4_init_X5_unitOf
theorem dX4_init_0 : decode cX4_init 0 = .ok (.aload_n 0, 1) := by decide +kernel
theorem dX4_init_1 : decode cX4_init 1 = .ok (.invokespecial 3, 3) := by decide +kernel
theorem dX4_init_4 : decode cX4_init 4 = .ok (.aload_n 0, 1) := by decide +kernel
theorem dX4_init_5 : decode cX4_init 5 = .ok (.iload_n 1, 1) := by decide +kernel
theorem dX4_init_6 : decode cX4_init 6 = .ok (.putfield 9, 3) := by decide +kernel
theorem dX4_init_9 : decode cX4_init 9 = .ok (.aload_n 0, 1) := by decide +kernel
theorem dX4_init_10 : decode cX4_init 10 = .ok (.bipush 18, 2) := by decide +kernel
theorem dX4_init_12 : decode cX4_init 12 = .ok (.anewarray 15, 3) := by decide +kernel
theorem dX4_init_15 : decode cX4_init 15 = .ok (.putfield 17, 3) := by decide +kernel
theorem dX4_init_18 : decode cX4_init 18 = .ok (.iconst 0, 1) := by decide +kernel
theorem dX4_init_19 : decode cX4_init 19 = .ok (.istore_n 3, 1) := by decide +kernel
theorem dX4_init_20 : decode cX4_init 20 = .ok (.iload_n 3, 1) := by decide +kernel
theorem dX4_init_21 : decode cX4_init 21 = .ok (.aload_n 0, 1) := by decide +kernel
theorem dX4_init_22 : decode cX4_init 22 = .ok (.getfield 17, 3) := by decide +kernel
theorem dX4_init_25 : decode cX4_init 25 = .ok (.arraylength, 1) := by decide +kernel
theorem dX4_init_26 : decode cX4_init 26 = .ok (.if_icmp .ge 28, 3) := by decide +kernel
theorem dX4_init_29 : decode cX4_init 29 = .ok (.aload_n 0, 1) := by decide +kernel
theorem dX4_init_30 : decode cX4_init 30 = .ok (.getfield 17, 3) := by decide +kernel
theorem dX4_init_33 : decode cX4_init 33 = .ok (.iload_n 3, 1) := by decide +kernel
theorem dX4_init_34 : decode cX4_init 34 = .ok (.aload_n 2, 1) := by decide +kernel
theorem dX4_init_35 : decode cX4_init 35 = .ok (.iload_n 3, 1) := by decide +kernel
theorem dX4_init_36 : decode cX4_init 36 = .ok (.bipush 6, 2) := by decide +kernel
theorem dX4_init_38 : decode cX4_init 38 = .ok (.idiv, 1) := by decide +kernel
theorem dX4_init_39 : decode cX4_init 39 = .ok (.iload_n 3, 1) := by decide +kernel
theorem dX4_init_40 : decode cX4_init 40 = .ok (.bipush 6, 2) := by decide +kernel
theorem dX4_init_42 : decode cX4_init 42 = .ok (.irem, 1) := by decide +kernel
theorem dX4_init_43 : decode cX4_init 43 = .ok (.iconst (-1), 1) := by decide +kernel
theorem dX4_init_44 : decode cX4_init 44 = .ok (.invokevirtual 21, 3) := by decide +kernel
theorem dX4_init_47 : decode cX4_init 47 = .ok (.aastore, 1) := by decide +kernel
theorem dX4_init_48 : decode cX4_init 48 = .ok (.iinc 3 1, 3) := by decide +kernel
theorem dX4_init_51 : decode cX4_init 51 = .ok (.goto (-31), 3) := by decide +kernel
theorem dX4_init_54 : decode cX4_init 54 = .ok (.return_, 1) := by decide +kernel
end
section
abbrev vwCl : List vw_C := [(RX0, TX0, 4), (RX1, TX1, 2), (RX2, TX2, 7), (RX3, TX3, 2), (RX4, TX4, 2), (RX5, TX5, 2), (RX6, TX6, 4), (RX7, TX7, 5), (RX8, TX8, 4), (RX9, TX9, 22)]
end
section
theorem dX4_unitFor_0 : decode cX4_unitFor 0 = .ok (.iload_n 1, 1) := by decide +kernel
theorem dX4_unitFor_1 : decode cX4_unitFor 1 = .ok (.bipush 6, 2) := by decide +kernel
theorem dX4_unitFor_3 : decode cX4_unitFor 3 = .ok (.imul, 1) := by decide +kernel
theorem dX4_unitFor_4 : decode cX4_unitFor 4 = .ok (.iload_n 2, 1) := by decide +kernel
theorem dX4_unitFor_5 : decode cX4_unitFor 5 = .ok (.iadd, 1) := by decide +kernel
theorem dX4_unitFor_6 : decode cX4_unitFor 6 = .ok (.istore_n 3, 1) := by decide +kernel
theorem dX4_unitFor_7 : decode cX4_unitFor 7 = .ok (.iload_n 3, 1) := by decide +kernel
theorem dX4_unitFor_8 : decode cX4_unitFor 8 = .ok (.ifCond .lt 21, 3) := by decide +kernel
theorem dX4_unitFor_11 : decode cX4_unitFor 11 = .ok (.iload_n 3, 1) := by decide +kernel
theorem dX4_unitFor_12 : decode cX4_unitFor 12 = .ok (.aload_n 0, 1) := by decide +kernel
theorem dX4_unitFor_13 : decode cX4_unitFor 13 = .ok (.getfield 17, 3) := by decide +kernel
theorem dX4_unitFor_16 : decode cX4_unitFor 16 = .ok (.arraylength, 1) := by decide +kernel
theorem dX4_unitFor_17 : decode cX4_unitFor 17 = .ok (.if_icmp .ge 12, 3) := by decide +kernel
theorem dX4_unitFor_20 : decode cX4_unitFor 20 = .ok (.aload_n 0, 1) := by decide +kernel
theorem dX4_unitFor_21 : decode cX4_unitFor 21 = .ok (.getfield 17, 3) := by decide +kernel
theorem dX4_unitFor_24 : decode cX4_unitFor 24 = .ok (.iload_n 3, 1) := by decide +kernel
theorem dX4_unitFor_25 : decode cX4_unitFor 25 = .ok (.aaload, 1) := by decide +kernel
theorem dX4_unitFor_26 : decode cX4_unitFor 26 = .ok (.goto 4, 3) := by decide +kernel
theorem dX4_unitFor_29 : decode cX4_unitFor 29 = .ok (.aconst_null, 1) := by decide +kernel
theorem dX4_unitFor_30 : decode cX4_unitFor 30 = .ok (.areturn, 1) := by decide +kernel
theorem dX5_init_0 : decode cX5_init 0 = .ok (.aload_n 0, 1) := by decide +kernel
theorem dX5_init_1 : decode cX5_init 1 = .ok (.invokespecial 3, 3) := by decide +kernel
theorem dX5_init_4 : decode cX5_init 4 = .ok (.aload_n 0, 1) := by decide +kernel
theorem dX5_init_5 : decode cX5_init 5 = .ok (.bipush 40, 2) := by decide +kernel
theorem dX5_init_7 : decode cX5_init 7 = .ok (.anewarray 9, 3) := by decide +kernel
theorem dX5_init_10 : decode cX5_init 10 = .ok (.putfield 11, 3) := by decide +kernel
theorem dX5_init_13 : decode cX5_init 13 = .ok (.return_, 1) := by decide +kernel
theorem dX5_at_0 : decode cX5_at 0 = .ok (.iload_n 1, 1) := by decide +kernel
theorem dX5_at_1 : decode cX5_at 1 = .ok (.ifCond .lt 21, 3) := by decide +kernel
theorem dX5_at_4 : decode cX5_at 4 = .ok (.iload_n 1, 1) := by decide +kernel
theorem dX5_at_5 : decode cX5_at 5 = .ok (.aload_n 0, 1) := by decide +kernel
theorem dX5_at_6 : decode cX5_at 6 = .ok (.getfield 11, 3) := by decide +kernel
theorem dX5_at_9 : decode cX5_at 9 = .ok (.arraylength, 1) := by decide +kernel
theorem dX5_at_10 : decode cX5_at 10 = .ok (.if_icmp .ge 12, 3) := by decide +kernel
theorem dX5_at_13 : decode cX5_at 13 = .ok (.aload_n 0, 1) := by decide +kernel
theorem dX5_at_14 : decode cX5_at 14 = .ok (.getfield 11, 3) := by decide +kernel
theorem dX5_at_17 : decode cX5_at 17 = .ok (.iload_n 1, 1) := by decide +kernel
theorem dX5_at_18 : decode cX5_at 18 = .ok (.aaload, 1) := by decide +kernel
theorem dX5_at_19 : decode cX5_at 19 = .ok (.goto 4, 3) := by decide +kernel
theorem dX5_at_22 : decode cX5_at 22 = .ok (.aconst_null, 1) := by decide +kernel
theorem dX5_at_23 : decode cX5_at 23 = .ok (.areturn, 1) := by decide +kernel
set_option maxRecDepth 20000 in
theorem ggX5_add_X2_init : GoodIn wsX5_add wsX2_init := goodIn_r _ [8, 9, 10, 11, 12, 13, 14, 15, 16, 17, 18, 19, 20, 21, 22, 23, 24, 25, 26, 27, 30, 31, 32, 33, 34, 35, 36, 37, 38] (by decide +kernel) (by decide +kernel)
set_option maxRecDepth 20000 in
theorem gX5_add_X2_init : GoodIn wsX5_add (wsX2_init) := ggX5_add_X2_init
theorem dX5_add_0 : decode cX5_add 0 = .ok (.aload_n 0, 1) := by decide +kernel
theorem dX5_add_1 : decode cX5_add 1 = .ok (.getfield 17, 3) := by decide +kernel
theorem dX5_add_4 : decode cX5_add 4 = .ok (.istore 6, 2) := by decide +kernel
theorem dX5_add_6 : decode cX5_add 6 = .ok (.iload 6, 2) := by decide +kernel
theorem dX5_add_8 : decode cX5_add 8 = .ok (.ifCond .lt 13, 3) := by decide +kernel
theorem dX5_add_11 : decode cX5_add 11 = .ok (.iload 6, 2) := by decide +kernel
theorem dX5_add_13 : decode cX5_add 13 = .ok (.aload_n 0, 1) := by decide +kernel
theorem dX5_add_14 : decode cX5_add 14 = .ok (.getfield 11, 3) := by decide +kernel
theorem dX5_add_17 : decode cX5_add 17 = .ok (.arraylength, 1) := by decide +kernel
theorem dX5_add_18 : decode cX5_add 18 = .ok (.if_icmp .lt 6, 3) := by decide +kernel
theorem dX5_add_21 : decode cX5_add 21 = .ok (.bipush (-3), 2) := by decide +kernel
theorem dX5_add_23 : decode cX5_add 23 = .ok (.ireturn, 1) := by decide +kernel
theorem dX5_add_24 : decode cX5_add 24 = .ok (.aload_n 0, 1) := by decide +kernel
theorem dX5_add_25 : decode cX5_add 25 = .ok (.getfield 11, 3) := by decide +kernel
theorem dX5_add_28 : decode cX5_add 28 = .ok (.iload 6, 2) := by decide +kernel
theorem dX5_add_30 : decode cX5_add 30 = .ok (.new 9, 3) := by decide +kernel
theorem dX5_add_33 : decode cX5_add 33 = .ok (.dup, 1) := by decide +kernel
theorem dX5_add_34 : decode cX5_add 34 = .ok (.iload 6, 2) := by decide +kernel
theorem dX5_add_36 : decode cX5_add 36 = .ok (.iload_n 1, 1) := by decide +kernel
theorem dX5_add_37 : decode cX5_add 37 = .ok (.iload_n 2, 1) := by decide +kernel
theorem dX5_add_38 : decode cX5_add 38 = .ok (.iload_n 3, 1) := by decide +kernel
theorem dX5_add_39 : decode cX5_add 39 = .ok (.iload 4, 2) := by decide +kernel
theorem dX5_add_41 : decode cX5_add 41 = .ok (.iload 5, 2) := by decide +kernel
theorem dX5_add_43 : decode cX5_add 43 = .ok (.invokespecial 21, 3) := by decide +kernel
theorem dX5_add_46 : decode cX5_add 46 = .ok (.aastore, 1) := by decide +kernel
theorem dX5_add_47 : decode cX5_add 47 = .ok (.aload_n 0, 1) := by decide +kernel
theorem dX5_add_48 : decode cX5_add 48 = .ok (.dup, 1) := by decide +kernel
theorem dX5_add_49 : decode cX5_add 49 = .ok (.getfield 17, 3) := by decide +kernel
theorem dX5_add_52 : decode cX5_add 52 = .ok (.iconst 1, 1) := by decide +kernel
theorem dX5_add_53 : decode cX5_add 53 = .ok (.iadd, 1) := by decide +kernel
theorem dX5_add_54 : decode cX5_add 54 = .ok (.putfield 17, 3) := by decide +kernel
theorem dX5_add_57 : decode cX5_add 57 = .ok (.iload 6, 2) := by decide +kernel
theorem dX5_add_59 : decode cX5_add 59 = .ok (.ireturn, 1) := by decide +kernel
set_option maxRecDepth 20000 in
theorem ggX5_isIn_X5_at : GoodIn wsX5_isIn wsX5_at := goodIn_r _ [6, 7, 15, 16] (by decide +kernel) (by decide +kernel)
set_option maxRecDepth 20000 in
theorem gX5_isIn_X5_at : GoodIn wsX5_isIn (wsV RX5 24 RX5 yX5_at wsX5_at) := goodIn_app (goodIn_of _ (by decide +kernel)) ggX5_isIn_X5_at
theorem dX5_isIn_0 : decode cX5_isIn 0 = .ok (.aload_n 0, 1) := by decide +kernel
theorem dX5_isIn_1 : decode cX5_isIn 1 = .ok (.iload_n 1, 1) := by decide +kernel
theorem dX5_isIn_2 : decode cX5_isIn 2 = .ok (.invokevirtual 24, 3) := by decide +kernel
theorem dX5_isIn_5 : decode cX5_isIn 5 = .ok (.astore_n 3, 1) := by decide +kernel
theorem dX5_isIn_6 : decode cX5_isIn 6 = .ok (.aload_n 3, 1) := by decide +kernel
theorem dX5_isIn_7 : decode cX5_isIn 7 = .ok (.ifnull 20, 3) := by decide +kernel
theorem dX5_isIn_10 : decode cX5_isIn 10 = .ok (.iload_n 2, 1) := by decide +kernel
theorem dX5_isIn_11 : decode cX5_isIn 11 = .ok (.iconst (-1), 1) := by decide +kernel
theorem dX5_isIn_12 : decode cX5_isIn 12 = .ok (.if_icmp .eq 11, 3) := by decide +kernel
theorem dX5_isIn_15 : decode cX5_isIn 15 = .ok (.aload_n 3, 1) := by decide +kernel
theorem dX5_isIn_16 : decode cX5_isIn 16 = .ok (.getfield 28, 3) := by decide +kernel
theorem dX5_isIn_19 : decode cX5_isIn 19 = .ok (.iload_n 2, 1) := by decide +kernel
theorem dX5_isIn_20 : decode cX5_isIn 20 = .ok (.if_icmp .ne 7, 3) := by decide +kernel
theorem dX5_isIn_23 : decode cX5_isIn 23 = .ok (.iconst 1, 1) := by decide +kernel
theorem dX5_isIn_24 : decode cX5_isIn 24 = .ok (.goto 4, 3) := by decide +kernel
theorem dX5_isIn_27 : decode cX5_isIn 27 = .ok (.iconst 0, 1) := by decide +kernel
theorem dX5_isIn_28 : decode cX5_isIn 28 = .ok (.ireturn, 1) := by decide +kernel
theorem dX5_eventsTold_0 : decode cX5_eventsTold 0 = .ok (.iconst 0, 1) := by decide +kernel
theorem dX5_eventsTold_1 : decode cX5_eventsTold 1 = .ok (.istore_n 1, 1) := by decide +kernel
theorem dX5_eventsTold_2 : decode cX5_eventsTold 2 = .ok (.iconst 0, 1) := by decide +kernel
theorem dX5_eventsTold_3 : decode cX5_eventsTold 3 = .ok (.istore_n 2, 1) := by decide +kernel
theorem dX5_eventsTold_4 : decode cX5_eventsTold 4 = .ok (.iload_n 2, 1) := by decide +kernel
theorem dX5_eventsTold_5 : decode cX5_eventsTold 5 = .ok (.aload_n 0, 1) := by decide +kernel
theorem dX5_eventsTold_6 : decode cX5_eventsTold 6 = .ok (.getfield 11, 3) := by decide +kernel
theorem dX5_eventsTold_9 : decode cX5_eventsTold 9 = .ok (.arraylength, 1) := by decide +kernel
theorem dX5_eventsTold_10 : decode cX5_eventsTold 10 = .ok (.if_icmp .ge 34, 3) := by decide +kernel
theorem dX5_eventsTold_13 : decode cX5_eventsTold 13 = .ok (.aload_n 0, 1) := by decide +kernel
theorem dX5_eventsTold_14 : decode cX5_eventsTold 14 = .ok (.getfield 11, 3) := by decide +kernel
theorem dX5_eventsTold_17 : decode cX5_eventsTold 17 = .ok (.iload_n 2, 1) := by decide +kernel
theorem dX5_eventsTold_18 : decode cX5_eventsTold 18 = .ok (.aaload, 1) := by decide +kernel
theorem dX5_eventsTold_19 : decode cX5_eventsTold 19 = .ok (.astore_n 3, 1) := by decide +kernel
theorem dX5_eventsTold_20 : decode cX5_eventsTold 20 = .ok (.iload_n 1, 1) := by decide +kernel
theorem dX5_eventsTold_21 : decode cX5_eventsTold 21 = .ok (.aload_n 3, 1) := by decide +kernel
theorem dX5_eventsTold_22 : decode cX5_eventsTold 22 = .ok (.ifnonnull 7, 3) := by decide +kernel
theorem dX5_eventsTold_25 : decode cX5_eventsTold 25 = .ok (.iconst 0, 1) := by decide +kernel
theorem dX5_eventsTold_26 : decode cX5_eventsTold 26 = .ok (.goto 10, 3) := by decide +kernel
theorem dX5_eventsTold_29 : decode cX5_eventsTold 29 = .ok (.aload_n 3, 1) := by decide +kernel
theorem dX5_eventsTold_30 : decode cX5_eventsTold 30 = .ok (.getfield 31, 3) := by decide +kernel
theorem dX5_eventsTold_33 : decode cX5_eventsTold 33 = .ok (.getfield 35, 3) := by decide +kernel
theorem dX5_eventsTold_36 : decode cX5_eventsTold 36 = .ok (.iadd, 1) := by decide +kernel
theorem dX5_eventsTold_37 : decode cX5_eventsTold 37 = .ok (.istore_n 1, 1) := by decide +kernel
theorem dX5_eventsTold_38 : decode cX5_eventsTold 38 = .ok (.iinc 2 1, 3) := by decide +kernel
theorem dX5_eventsTold_41 : decode cX5_eventsTold 41 = .ok (.goto (-37), 3) := by decide +kernel
theorem dX5_eventsTold_44 : decode cX5_eventsTold 44 = .ok (.iload_n 1, 1) := by decide +kernel
theorem dX5_eventsTold_45 : decode cX5_eventsTold 45 = .ok (.ireturn, 1) := by decide +kernel
theorem dX5_rentsKnown_0 : decode cX5_rentsKnown 0 = .ok (.iconst 0, 1) := by decide +kernel
theorem dX5_rentsKnown_1 : decode cX5_rentsKnown 1 = .ok (.istore_n 1, 1) := by decide +kernel
theorem dX5_rentsKnown_2 : decode cX5_rentsKnown 2 = .ok (.iconst 0, 1) := by decide +kernel
theorem dX5_rentsKnown_3 : decode cX5_rentsKnown 3 = .ok (.istore_n 2, 1) := by decide +kernel
theorem dX5_rentsKnown_4 : decode cX5_rentsKnown 4 = .ok (.iload_n 2, 1) := by decide +kernel
theorem dX5_rentsKnown_5 : decode cX5_rentsKnown 5 = .ok (.aload_n 0, 1) := by decide +kernel
theorem dX5_rentsKnown_6 : decode cX5_rentsKnown 6 = .ok (.getfield 11, 3) := by decide +kernel
theorem dX5_rentsKnown_9 : decode cX5_rentsKnown 9 = .ok (.arraylength, 1) := by decide +kernel
theorem dX5_rentsKnown_10 : decode cX5_rentsKnown 10 = .ok (.if_icmp .ge 35, 3) := by decide +kernel
theorem dX5_rentsKnown_13 : decode cX5_rentsKnown 13 = .ok (.aload_n 0, 1) := by decide +kernel
theorem dX5_rentsKnown_14 : decode cX5_rentsKnown 14 = .ok (.getfield 11, 3) := by decide +kernel
theorem dX5_rentsKnown_17 : decode cX5_rentsKnown 17 = .ok (.iload_n 2, 1) := by decide +kernel
theorem dX5_rentsKnown_18 : decode cX5_rentsKnown 18 = .ok (.aaload, 1) := by decide +kernel
theorem dX5_rentsKnown_19 : decode cX5_rentsKnown 19 = .ok (.astore_n 3, 1) := by decide +kernel
theorem dX5_rentsKnown_20 : decode cX5_rentsKnown 20 = .ok (.iload_n 1, 1) := by decide +kernel
theorem dX5_rentsKnown_21 : decode cX5_rentsKnown 21 = .ok (.aload_n 3, 1) := by decide +kernel
theorem dX5_rentsKnown_22 : decode cX5_rentsKnown 22 = .ok (.ifnull 14, 3) := by decide +kernel
theorem dX5_rentsKnown_25 : decode cX5_rentsKnown 25 = .ok (.aload_n 3, 1) := by decide +kernel
theorem dX5_rentsKnown_26 : decode cX5_rentsKnown 26 = .ok (.getfield 40, 3) := by decide +kernel
theorem dX5_rentsKnown_29 : decode cX5_rentsKnown 29 = .ok (.ifCond .le 7, 3) := by decide +kernel
theorem dX5_rentsKnown_32 : decode cX5_rentsKnown 32 = .ok (.iconst 1, 1) := by decide +kernel
theorem dX5_rentsKnown_33 : decode cX5_rentsKnown 33 = .ok (.goto 4, 3) := by decide +kernel
theorem dX5_rentsKnown_36 : decode cX5_rentsKnown 36 = .ok (.iconst 0, 1) := by decide +kernel
theorem dX5_rentsKnown_37 : decode cX5_rentsKnown 37 = .ok (.iadd, 1) := by decide +kernel
theorem dX5_rentsKnown_38 : decode cX5_rentsKnown 38 = .ok (.istore_n 1, 1) := by decide +kernel
theorem dX5_rentsKnown_39 : decode cX5_rentsKnown 39 = .ok (.iinc 2 1, 3) := by decide +kernel
theorem dX5_rentsKnown_42 : decode cX5_rentsKnown 42 = .ok (.goto (-38), 3) := by decide +kernel
theorem dX5_rentsKnown_45 : decode cX5_rentsKnown 45 = .ok (.iload_n 1, 1) := by decide +kernel
theorem dX5_rentsKnown_46 : decode cX5_rentsKnown 46 = .ok (.ireturn, 1) := by decide +kernel
set_option maxRecDepth 20000 in
theorem ggX5_unitOf_X5_rentsOf : GoodIn wsX5_unitOf wsX5_rentsOf := goodIn_r _ [11, 12, 13, 14, 15, 16, 17, 18, 19, 20, 21, 56, 57, 49, 50, 51, 52, 53, 54, 55] (by decide +kernel) (by decide +kernel)
set_option maxRecDepth 20000 in
theorem gX5_unitOf_X5_rentsOf : GoodIn wsX5_unitOf (wsV RX5 43 RX5 yX5_rentsOf wsX5_rentsOf) := goodIn_app (goodIn_of _ (by decide +kernel)) ggX5_unitOf_X5_rentsOf
set_option maxRecDepth 20000 in
theorem ggX5_unitOf_X5_middleOf : GoodIn wsX5_unitOf wsX5_middleOf := goodIn_r _ [25, 12, 13, 14, 15, 16, 17, 18, 19, 20, 21, 26, 27, 28, 10, 29, 30, 31, 32, 33, 34, 56, 57, 49, 50, 51, 52, 53, 54, 55] (by decide +kernel) (by decide +kernel)
set_option maxRecDepth 20000 in
theorem gX5_unitOf_X5_middleOf : GoodIn wsX5_unitOf (wsV RX5 47 RX5 yX5_middleOf wsX5_middleOf) := goodIn_app (goodIn_of _ (by decide +kernel)) ggX5_unitOf_X5_middleOf
set_option maxRecDepth 20000 in
theorem ggX5_unitOf_X6_init : GoodIn wsX5_unitOf wsX6_init := goodIn_r _ [37, 38, 39, 40, 41, 42, 43, 44, 45, 46, 47, 48] (by decide +kernel) (by decide +kernel)
set_option maxRecDepth 20000 in
theorem gX5_unitOf_X6_init : GoodIn wsX5_unitOf (wsX6_init) := ggX5_unitOf_X6_init
theorem dX5_unitOf_0 : decode cX5_unitOf 0 = .ok (.aload_n 0, 1) := by decide +kernel
theorem dX5_unitOf_1 : decode cX5_unitOf 1 = .ok (.iload_n 1, 1) := by decide +kernel
theorem dX5_unitOf_2 : decode cX5_unitOf 2 = .ok (.iload_n 2, 1) := by decide +kernel
theorem dX5_unitOf_3 : decode cX5_unitOf 3 = .ok (.iload_n 3, 1) := by decide +kernel
theorem dX5_unitOf_4 : decode cX5_unitOf 4 = .ok (.invokevirtual 43, 3) := by decide +kernel
theorem dX5_unitOf_7 : decode cX5_unitOf 7 = .ok (.istore 4, 2) := by decide +kernel
theorem dX5_unitOf_9 : decode cX5_unitOf 9 = .ok (.iload_n 2, 1) := by decide +kernel
theorem dX5_unitOf_10 : decode cX5_unitOf 10 = .ok (.istore 5, 2) := by decide +kernel
theorem dX5_unitOf_12 : decode cX5_unitOf 12 = .ok (.iload 4, 2) := by decide +kernel
theorem dX5_unitOf_14 : decode cX5_unitOf 14 = .ok (.ifCond .ne 15, 3) := by decide +kernel
theorem dX5_unitOf_17 : decode cX5_unitOf 17 = .ok (.iconst (-1), 1) := by decide +kernel
theorem dX5_unitOf_18 : decode cX5_unitOf 18 = .ok (.istore 5, 2) := by decide +kernel
theorem dX5_unitOf_20 : decode cX5_unitOf 20 = .ok (.aload_n 0, 1) := by decide +kernel
theorem dX5_unitOf_21 : decode cX5_unitOf 21 = .ok (.iload_n 1, 1) := by decide +kernel
theorem dX5_unitOf_22 : decode cX5_unitOf 22 = .ok (.iconst (-1), 1) := by decide +kernel
theorem dX5_unitOf_23 : decode cX5_unitOf 23 = .ok (.iload_n 3, 1) := by decide +kernel
theorem dX5_unitOf_24 : decode cX5_unitOf 24 = .ok (.invokevirtual 43, 3) := by decide +kernel
theorem dX5_unitOf_27 : decode cX5_unitOf 27 = .ok (.istore 4, 2) := by decide +kernel
theorem dX5_unitOf_29 : decode cX5_unitOf 29 = .ok (.aload_n 0, 1) := by decide +kernel
theorem dX5_unitOf_30 : decode cX5_unitOf 30 = .ok (.iload_n 1, 1) := by decide +kernel
theorem dX5_unitOf_31 : decode cX5_unitOf 31 = .ok (.iload 5, 2) := by decide +kernel
theorem dX5_unitOf_33 : decode cX5_unitOf 33 = .ok (.iload_n 3, 1) := by decide +kernel
theorem dX5_unitOf_34 : decode cX5_unitOf 34 = .ok (.iload 4, 2) := by decide +kernel
theorem dX5_unitOf_36 : decode cX5_unitOf 36 = .ok (.iconst 1, 1) := by decide +kernel
theorem dX5_unitOf_37 : decode cX5_unitOf 37 = .ok (.isub, 1) := by decide +kernel
theorem dX5_unitOf_38 : decode cX5_unitOf 38 = .ok (.iconst 2, 1) := by decide +kernel
theorem dX5_unitOf_39 : decode cX5_unitOf 39 = .ok (.idiv, 1) := by decide +kernel
theorem dX5_unitOf_40 : decode cX5_unitOf 40 = .ok (.invokevirtual 47, 3) := by decide +kernel
theorem dX5_unitOf_43 : decode cX5_unitOf 43 = .ok (.astore 6, 2) := by decide +kernel
theorem dX5_unitOf_45 : decode cX5_unitOf 45 = .ok (.aload 6, 2) := by decide +kernel
theorem dX5_unitOf_47 : decode cX5_unitOf 47 = .ok (.ifnonnull 17, 3) := by decide +kernel
theorem dX5_unitOf_50 : decode cX5_unitOf 50 = .ok (.new 51, 3) := by decide +kernel
theorem dX5_unitOf_53 : decode cX5_unitOf 53 = .ok (.dup, 1) := by decide +kernel
theorem dX5_unitOf_54 : decode cX5_unitOf 54 = .ok (.bipush 10, 2) := by decide +kernel
theorem dX5_unitOf_56 : decode cX5_unitOf 56 = .ok (.iconst 1, 1) := by decide +kernel
theorem dX5_unitOf_57 : decode cX5_unitOf 57 = .ok (.iconst 0, 1) := by decide +kernel
theorem dX5_unitOf_58 : decode cX5_unitOf 58 = .ok (.bipush (-4), 2) := by decide +kernel
theorem dX5_unitOf_60 : decode cX5_unitOf 60 = .ok (.invokespecial 53, 3) := by decide +kernel
theorem dX5_unitOf_63 : decode cX5_unitOf 63 = .ok (.areturn, 1) := by decide +kernel
theorem dX5_unitOf_64 : decode cX5_unitOf 64 = .ok (.new 51, 3) := by decide +kernel
theorem dX5_unitOf_67 : decode cX5_unitOf 67 = .ok (.dup, 1) := by decide +kernel
theorem dX5_unitOf_68 : decode cX5_unitOf 68 = .ok (.aload 6, 2) := by decide +kernel
theorem dX5_unitOf_70 : decode cX5_unitOf 70 = .ok (.getfield 40, 3) := by decide +kernel
theorem dX5_unitOf_73 : decode cX5_unitOf 73 = .ok (.aload 6, 2) := by decide +kernel
theorem dX5_unitOf_75 : decode cX5_unitOf 75 = .ok (.getfield 56, 3) := by decide +kernel
theorem dX5_unitOf_78 : decode cX5_unitOf 78 = .ok (.iload 4, 2) := by decide +kernel
theorem dX5_unitOf_80 : decode cX5_unitOf 80 = .ok (.aload 6, 2) := by decide +kernel
theorem dX5_unitOf_82 : decode cX5_unitOf 82 = .ok (.getfield 57, 3) := by decide +kernel
theorem dX5_unitOf_85 : decode cX5_unitOf 85 = .ok (.invokespecial 53, 3) := by decide +kernel
theorem dX5_unitOf_88 : decode cX5_unitOf 88 = .ok (.areturn, 1) := by decide +kernel
set_option maxRecDepth 20000 in
theorem ggX5_rentsOf_X2_tells : GoodIn wsX5_rentsOf wsX2_tells := goodIn_r _ [6, 7, 8, 9, 10, 13, 14, 15, 16, 17, 18, 19] (by decide +kernel) (by decide +kernel)
set_option maxRecDepth 20000 in
theorem gX5_rentsOf_X2_tells : GoodIn wsX5_rentsOf (wsV RX5 60 RX2 yX2_tells wsX2_tells) := goodIn_app (goodIn_of _ (by decide +kernel)) ggX5_rentsOf_X2_tells
theorem dX5_rentsOf_0 : decode cX5_rentsOf 0 = .ok (.iconst 0, 1) := by decide +kernel
theorem dX5_rentsOf_1 : decode cX5_rentsOf 1 = .ok (.istore 4, 2) := by decide +kernel
theorem dX5_rentsOf_3 : decode cX5_rentsOf 3 = .ok (.iconst 0, 1) := by decide +kernel
theorem dX5_rentsOf_4 : decode cX5_rentsOf 4 = .ok (.istore 5, 2) := by decide +kernel
theorem dX5_rentsOf_6 : decode cX5_rentsOf 6 = .ok (.iload 5, 2) := by decide +kernel
theorem dX5_rentsOf_8 : decode cX5_rentsOf 8 = .ok (.aload_n 0, 1) := by decide +kernel
theorem dX5_rentsOf_9 : decode cX5_rentsOf 9 = .ok (.getfield 11, 3) := by decide +kernel
theorem dX5_rentsOf_12 : decode cX5_rentsOf 12 = .ok (.arraylength, 1) := by decide +kernel
theorem dX5_rentsOf_13 : decode cX5_rentsOf 13 = .ok (.if_icmp .ge 44, 3) := by decide +kernel
theorem dX5_rentsOf_16 : decode cX5_rentsOf 16 = .ok (.aload_n 0, 1) := by decide +kernel
theorem dX5_rentsOf_17 : decode cX5_rentsOf 17 = .ok (.getfield 11, 3) := by decide +kernel
theorem dX5_rentsOf_20 : decode cX5_rentsOf 20 = .ok (.iload 5, 2) := by decide +kernel
theorem dX5_rentsOf_22 : decode cX5_rentsOf 22 = .ok (.aaload, 1) := by decide +kernel
theorem dX5_rentsOf_23 : decode cX5_rentsOf 23 = .ok (.astore 6, 2) := by decide +kernel
theorem dX5_rentsOf_25 : decode cX5_rentsOf 25 = .ok (.iload 4, 2) := by decide +kernel
theorem dX5_rentsOf_27 : decode cX5_rentsOf 27 = .ok (.aload 6, 2) := by decide +kernel
theorem dX5_rentsOf_29 : decode cX5_rentsOf 29 = .ok (.ifnull 18, 3) := by decide +kernel
theorem dX5_rentsOf_32 : decode cX5_rentsOf 32 = .ok (.aload 6, 2) := by decide +kernel
theorem dX5_rentsOf_34 : decode cX5_rentsOf 34 = .ok (.iload_n 1, 1) := by decide +kernel
theorem dX5_rentsOf_35 : decode cX5_rentsOf 35 = .ok (.iload_n 2, 1) := by decide +kernel
theorem dX5_rentsOf_36 : decode cX5_rentsOf 36 = .ok (.iload_n 3, 1) := by decide +kernel
theorem dX5_rentsOf_37 : decode cX5_rentsOf 37 = .ok (.invokevirtual 60, 3) := by decide +kernel
theorem dX5_rentsOf_40 : decode cX5_rentsOf 40 = .ok (.ifCond .eq 7, 3) := by decide +kernel
theorem dX5_rentsOf_43 : decode cX5_rentsOf 43 = .ok (.iconst 1, 1) := by decide +kernel
theorem dX5_rentsOf_44 : decode cX5_rentsOf 44 = .ok (.goto 4, 3) := by decide +kernel
theorem dX5_rentsOf_47 : decode cX5_rentsOf 47 = .ok (.iconst 0, 1) := by decide +kernel
theorem dX5_rentsOf_48 : decode cX5_rentsOf 48 = .ok (.iadd, 1) := by decide +kernel
theorem dX5_rentsOf_49 : decode cX5_rentsOf 49 = .ok (.istore 4, 2) := by decide +kernel
theorem dX5_rentsOf_51 : decode cX5_rentsOf 51 = .ok (.iinc 5 1, 3) := by decide +kernel
theorem dX5_rentsOf_54 : decode cX5_rentsOf 54 = .ok (.goto (-48), 3) := by decide +kernel
theorem dX5_rentsOf_57 : decode cX5_rentsOf 57 = .ok (.iload 4, 2) := by decide +kernel
theorem dX5_rentsOf_59 : decode cX5_rentsOf 59 = .ok (.ireturn, 1) := by decide +kernel
set_option maxRecDepth 20000 in
theorem ggX5_middleOf_X2_tells : GoodIn wsX5_middleOf wsX2_tells := goodIn_r _ [6, 7, 8, 9, 10, 23, 24, 25, 26, 27, 28, 29] (by decide +kernel) (by decide +kernel)
set_option maxRecDepth 20000 in
theorem gX5_middleOf_X2_tells : GoodIn wsX5_middleOf (wsV RX5 60 RX2 yX2_tells wsX2_tells) := goodIn_app (goodIn_of _ (by decide +kernel)) ggX5_middleOf_X2_tells
set_option maxRecDepth 20000 in
theorem ggX5_middleOf_X5_lesserThan : GoodIn wsX5_middleOf wsX5_lesserThan := goodIn_r _ [15, 1, 2, 3, 4, 5, 6, 7, 8, 9, 10, 16, 17, 18, 19, 20, 21, 22, 23, 24, 25, 26, 27, 28, 29] (by decide +kernel) (by decide +kernel)
set_option maxRecDepth 20000 in
theorem gX5_middleOf_X5_lesserThan : GoodIn wsX5_middleOf (wsV RX5 64 RX5 yX5_lesserThan wsX5_lesserThan) := goodIn_app (goodIn_of _ (by decide +kernel)) ggX5_middleOf_X5_lesserThan
theorem dX5_middleOf_0 : decode cX5_middleOf 0 = .ok (.iconst 0, 1) := by decide +kernel
theorem dX5_middleOf_1 : decode cX5_middleOf 1 = .ok (.istore 5, 2) := by decide +kernel
theorem dX5_middleOf_3 : decode cX5_middleOf 3 = .ok (.iload 5, 2) := by decide +kernel
theorem dX5_middleOf_5 : decode cX5_middleOf 5 = .ok (.aload_n 0, 1) := by decide +kernel
theorem dX5_middleOf_6 : decode cX5_middleOf 6 = .ok (.getfield 11, 3) := by decide +kernel
theorem dX5_middleOf_9 : decode cX5_middleOf 9 = .ok (.arraylength, 1) := by decide +kernel
theorem dX5_middleOf_10 : decode cX5_middleOf 10 = .ok (.if_icmp .ge 51, 3) := by decide +kernel
theorem dX5_middleOf_13 : decode cX5_middleOf 13 = .ok (.aload_n 0, 1) := by decide +kernel
theorem dX5_middleOf_14 : decode cX5_middleOf 14 = .ok (.getfield 11, 3) := by decide +kernel
theorem dX5_middleOf_17 : decode cX5_middleOf 17 = .ok (.iload 5, 2) := by decide +kernel
theorem dX5_middleOf_19 : decode cX5_middleOf 19 = .ok (.aaload, 1) := by decide +kernel
theorem dX5_middleOf_20 : decode cX5_middleOf 20 = .ok (.astore 6, 2) := by decide +kernel
theorem dX5_middleOf_22 : decode cX5_middleOf 22 = .ok (.aload 6, 2) := by decide +kernel
theorem dX5_middleOf_24 : decode cX5_middleOf 24 = .ok (.ifnull 31, 3) := by decide +kernel
theorem dX5_middleOf_27 : decode cX5_middleOf 27 = .ok (.aload 6, 2) := by decide +kernel
theorem dX5_middleOf_29 : decode cX5_middleOf 29 = .ok (.iload_n 1, 1) := by decide +kernel
theorem dX5_middleOf_30 : decode cX5_middleOf 30 = .ok (.iload_n 2, 1) := by decide +kernel
theorem dX5_middleOf_31 : decode cX5_middleOf 31 = .ok (.iload_n 3, 1) := by decide +kernel
theorem dX5_middleOf_32 : decode cX5_middleOf 32 = .ok (.invokevirtual 60, 3) := by decide +kernel
theorem dX5_middleOf_35 : decode cX5_middleOf 35 = .ok (.ifCond .eq 20, 3) := by decide +kernel
theorem dX5_middleOf_38 : decode cX5_middleOf 38 = .ok (.aload_n 0, 1) := by decide +kernel
theorem dX5_middleOf_39 : decode cX5_middleOf 39 = .ok (.aload 6, 2) := by decide +kernel
theorem dX5_middleOf_41 : decode cX5_middleOf 41 = .ok (.iload_n 1, 1) := by decide +kernel
theorem dX5_middleOf_42 : decode cX5_middleOf 42 = .ok (.iload_n 2, 1) := by decide +kernel
theorem dX5_middleOf_43 : decode cX5_middleOf 43 = .ok (.iload_n 3, 1) := by decide +kernel
theorem dX5_middleOf_44 : decode cX5_middleOf 44 = .ok (.invokevirtual 64, 3) := by decide +kernel
theorem dX5_middleOf_47 : decode cX5_middleOf 47 = .ok (.iload 4, 2) := by decide +kernel
theorem dX5_middleOf_49 : decode cX5_middleOf 49 = .ok (.if_icmp .ne 6, 3) := by decide +kernel
theorem dX5_middleOf_52 : decode cX5_middleOf 52 = .ok (.aload 6, 2) := by decide +kernel
theorem dX5_middleOf_54 : decode cX5_middleOf 54 = .ok (.areturn, 1) := by decide +kernel
theorem dX5_middleOf_55 : decode cX5_middleOf 55 = .ok (.iinc 5 1, 3) := by decide +kernel
theorem dX5_middleOf_58 : decode cX5_middleOf 58 = .ok (.goto (-55), 3) := by decide +kernel
theorem dX5_middleOf_61 : decode cX5_middleOf 61 = .ok (.aconst_null, 1) := by decide +kernel
theorem dX5_middleOf_62 : decode cX5_middleOf 62 = .ok (.areturn, 1) := by decide +kernel
set_option maxRecDepth 20000 in
theorem ggX5_lesserThan_X2_tells : GoodIn wsX5_lesserThan wsX2_tells := goodIn_r _ [6, 7, 8, 9, 10, 18, 19, 20, 21, 22, 23, 24] (by decide +kernel) (by decide +kernel)
set_option maxRecDepth 20000 in
theorem gX5_lesserThan_X2_tells : GoodIn wsX5_lesserThan (wsV RX5 60 RX2 yX2_tells wsX2_tells) := goodIn_app (goodIn_of _ (by decide +kernel)) ggX5_lesserThan_X2_tells
set_option maxRecDepth 20000 in
theorem ggX5_lesserThan_X2_hasLesserRent : GoodIn wsX5_lesserThan wsX2_hasLesserRent := goodIn_r _ [14, 7, 15, 8, 18, 19, 20, 21, 22, 23, 24] (by decide +kernel) (by decide +kernel)
set_option maxRecDepth 20000 in
theorem gX5_lesserThan_X2_hasLesserRent : GoodIn wsX5_lesserThan (wsV RX5 68 RX2 yX2_hasLesserRent wsX2_hasLesserRent) := goodIn_app (goodIn_of _ (by decide +kernel)) ggX5_lesserThan_X2_hasLesserRent
theorem dX5_lesserThan_0 : decode cX5_lesserThan 0 = .ok (.iconst 0, 1) := by decide +kernel
theorem dX5_lesserThan_1 : decode cX5_lesserThan 1 = .ok (.istore 5, 2) := by decide +kernel
theorem dX5_lesserThan_3 : decode cX5_lesserThan 3 = .ok (.iconst 0, 1) := by decide +kernel
theorem dX5_lesserThan_4 : decode cX5_lesserThan 4 = .ok (.istore 6, 2) := by decide +kernel
theorem dX5_lesserThan_6 : decode cX5_lesserThan 6 = .ok (.iload 6, 2) := by decide +kernel
theorem dX5_lesserThan_8 : decode cX5_lesserThan 8 = .ok (.aload_n 0, 1) := by decide +kernel
theorem dX5_lesserThan_9 : decode cX5_lesserThan 9 = .ok (.getfield 11, 3) := by decide +kernel
theorem dX5_lesserThan_12 : decode cX5_lesserThan 12 = .ok (.arraylength, 1) := by decide +kernel
theorem dX5_lesserThan_13 : decode cX5_lesserThan 13 = .ok (.if_icmp .ge 54, 3) := by decide +kernel
theorem dX5_lesserThan_16 : decode cX5_lesserThan 16 = .ok (.aload_n 0, 1) := by decide +kernel
theorem dX5_lesserThan_17 : decode cX5_lesserThan 17 = .ok (.getfield 11, 3) := by decide +kernel
theorem dX5_lesserThan_20 : decode cX5_lesserThan 20 = .ok (.iload 6, 2) := by decide +kernel
theorem dX5_lesserThan_22 : decode cX5_lesserThan 22 = .ok (.aaload, 1) := by decide +kernel
theorem dX5_lesserThan_23 : decode cX5_lesserThan 23 = .ok (.astore 7, 2) := by decide +kernel
theorem dX5_lesserThan_25 : decode cX5_lesserThan 25 = .ok (.iload 5, 2) := by decide +kernel
theorem dX5_lesserThan_27 : decode cX5_lesserThan 27 = .ok (.aload 7, 2) := by decide +kernel
theorem dX5_lesserThan_29 : decode cX5_lesserThan 29 = .ok (.ifnull 28, 3) := by decide +kernel
theorem dX5_lesserThan_32 : decode cX5_lesserThan 32 = .ok (.aload 7, 2) := by decide +kernel
theorem dX5_lesserThan_34 : decode cX5_lesserThan 34 = .ok (.iload_n 2, 1) := by decide +kernel
theorem dX5_lesserThan_35 : decode cX5_lesserThan 35 = .ok (.iload_n 3, 1) := by decide +kernel
theorem dX5_lesserThan_36 : decode cX5_lesserThan 36 = .ok (.iload 4, 2) := by decide +kernel
theorem dX5_lesserThan_38 : decode cX5_lesserThan 38 = .ok (.invokevirtual 60, 3) := by decide +kernel
theorem dX5_lesserThan_41 : decode cX5_lesserThan 41 = .ok (.ifCond .eq 16, 3) := by decide +kernel
theorem dX5_lesserThan_44 : decode cX5_lesserThan 44 = .ok (.aload 7, 2) := by decide +kernel
theorem dX5_lesserThan_46 : decode cX5_lesserThan 46 = .ok (.aload_n 1, 1) := by decide +kernel
theorem dX5_lesserThan_47 : decode cX5_lesserThan 47 = .ok (.invokevirtual 68, 3) := by decide +kernel
theorem dX5_lesserThan_50 : decode cX5_lesserThan 50 = .ok (.ifCond .eq 7, 3) := by decide +kernel
theorem dX5_lesserThan_53 : decode cX5_lesserThan 53 = .ok (.iconst 1, 1) := by decide +kernel
theorem dX5_lesserThan_54 : decode cX5_lesserThan 54 = .ok (.goto 4, 3) := by decide +kernel
theorem dX5_lesserThan_57 : decode cX5_lesserThan 57 = .ok (.iconst 0, 1) := by decide +kernel
theorem dX5_lesserThan_58 : decode cX5_lesserThan 58 = .ok (.iadd, 1) := by decide +kernel
theorem dX5_lesserThan_59 : decode cX5_lesserThan 59 = .ok (.istore 5, 2) := by decide +kernel
theorem dX5_lesserThan_61 : decode cX5_lesserThan 61 = .ok (.iinc 6 1, 3) := by decide +kernel
theorem dX5_lesserThan_64 : decode cX5_lesserThan 64 = .ok (.goto (-58), 3) := by decide +kernel
theorem dX5_lesserThan_67 : decode cX5_lesserThan 67 = .ok (.iload 5, 2) := by decide +kernel
theorem dX5_lesserThan_69 : decode cX5_lesserThan 69 = .ok (.ireturn, 1) := by decide +kernel
theorem dX6_init_0 : decode cX6_init 0 = .ok (.aload_n 0, 1) := by decide +kernel
theorem dX6_init_1 : decode cX6_init 1 = .ok (.invokespecial 1, 3) := by decide +kernel
theorem dX6_init_4 : decode cX6_init 4 = .ok (.aload_n 0, 1) := by decide +kernel
theorem dX6_init_5 : decode cX6_init 5 = .ok (.iload_n 1, 1) := by decide +kernel
theorem dX6_init_6 : decode cX6_init 6 = .ok (.putfield 7, 3) := by decide +kernel
theorem dX6_init_9 : decode cX6_init 9 = .ok (.aload_n 0, 1) := by decide +kernel
theorem dX6_init_10 : decode cX6_init 10 = .ok (.iload_n 2, 1) := by decide +kernel
theorem dX6_init_11 : decode cX6_init 11 = .ok (.putfield 13, 3) := by decide +kernel
theorem dX6_init_14 : decode cX6_init 14 = .ok (.aload_n 0, 1) := by decide +kernel
theorem dX6_init_15 : decode cX6_init 15 = .ok (.iload_n 3, 1) := by decide +kernel
theorem dX6_init_16 : decode cX6_init 16 = .ok (.putfield 16, 3) := by decide +kernel
theorem dX6_init_19 : decode cX6_init 19 = .ok (.aload_n 0, 1) := by decide +kernel
theorem dX6_init_20 : decode cX6_init 20 = .ok (.iload 4, 2) := by decide +kernel
theorem dX6_init_22 : decode cX6_init 22 = .ok (.putfield 19, 3) := by decide +kernel
theorem dX6_init_25 : decode cX6_init 25 = .ok (.return_, 1) := by decide +kernel
theorem dX6_times_0 : decode cX6_times 0 = .ok (.aload_n 0, 1) := by decide +kernel
theorem dX6_times_1 : decode cX6_times 1 = .ok (.getfield 13, 3) := by decide +kernel
theorem dX6_times_4 : decode cX6_times 4 = .ok (.ifCond .gt 7, 3) := by decide +kernel
theorem dX6_times_7 : decode cX6_times 7 = .ok (.lconst 0, 1) := by decide +kernel
theorem dX6_times_8 : decode cX6_times 8 = .ok (.goto 17, 3) := by decide +kernel
theorem dX6_times_11 : decode cX6_times 11 = .ok (.iload_n 1, 1) := by decide +kernel
theorem dX6_times_12 : decode cX6_times 12 = .ok (.i2l, 1) := by decide +kernel
theorem dX6_times_13 : decode cX6_times 13 = .ok (.aload_n 0, 1) := by decide +kernel
theorem dX6_times_14 : decode cX6_times 14 = .ok (.getfield 7, 3) := by decide +kernel
theorem dX6_times_17 : decode cX6_times 17 = .ok (.i2l, 1) := by decide +kernel
theorem dX6_times_18 : decode cX6_times 18 = .ok (.lmul, 1) := by decide +kernel
theorem dX6_times_19 : decode cX6_times 19 = .ok (.aload_n 0, 1) := by decide +kernel
theorem dX6_times_20 : decode cX6_times 20 = .ok (.getfield 13, 3) := by decide +kernel
theorem dX6_times_23 : decode cX6_times 23 = .ok (.i2l, 1) := by decide +kernel
theorem dX6_times_24 : decode cX6_times 24 = .ok (.ldiv, 1) := by decide +kernel
theorem dX6_times_25 : decode cX6_times 25 = .ok (.lreturn, 1) := by decide +kernel
theorem dX7_init_0 : decode cX7_init 0 = .ok (.aload_n 0, 1) := by decide +kernel
theorem dX7_init_1 : decode cX7_init 1 = .ok (.invokespecial 3, 3) := by decide +kernel
theorem dX7_init_4 : decode cX7_init 4 = .ok (.aload_n 0, 1) := by decide +kernel
theorem dX7_init_5 : decode cX7_init 5 = .ok (.bipush 40, 2) := by decide +kernel
theorem dX7_init_7 : decode cX7_init 7 = .ok (.newarray .int, 2) := by decide +kernel
theorem dX7_init_9 : decode cX7_init 9 = .ok (.putfield 9, 3) := by decide +kernel
theorem dX7_init_12 : decode cX7_init 12 = .ok (.aload_n 0, 1) := by decide +kernel
theorem dX7_init_13 : decode cX7_init 13 = .ok (.bipush 40, 2) := by decide +kernel
theorem dX7_init_15 : decode cX7_init 15 = .ok (.newarray .int, 2) := by decide +kernel
theorem dX7_init_17 : decode cX7_init 17 = .ok (.putfield 15, 3) := by decide +kernel
theorem dX7_init_20 : decode cX7_init 20 = .ok (.iconst 0, 1) := by decide +kernel
theorem dX7_init_21 : decode cX7_init 21 = .ok (.istore_n 1, 1) := by decide +kernel
theorem dX7_init_22 : decode cX7_init 22 = .ok (.iload_n 1, 1) := by decide +kernel
theorem dX7_init_23 : decode cX7_init 23 = .ok (.aload_n 0, 1) := by decide +kernel
theorem dX7_init_24 : decode cX7_init 24 = .ok (.getfield 9, 3) := by decide +kernel
theorem dX7_init_27 : decode cX7_init 27 = .ok (.arraylength, 1) := by decide +kernel
theorem dX7_init_28 : decode cX7_init 28 = .ok (.if_icmp .ge 17, 3) := by decide +kernel
theorem dX7_init_31 : decode cX7_init 31 = .ok (.aload_n 0, 1) := by decide +kernel
theorem dX7_init_32 : decode cX7_init 32 = .ok (.getfield 9, 3) := by decide +kernel
theorem dX7_init_35 : decode cX7_init 35 = .ok (.iload_n 1, 1) := by decide +kernel
theorem dX7_init_36 : decode cX7_init 36 = .ok (.bipush (-4), 2) := by decide +kernel
theorem dX7_init_38 : decode cX7_init 38 = .ok (.iastore, 1) := by decide +kernel
theorem dX7_init_39 : decode cX7_init 39 = .ok (.iinc 1 1, 3) := by decide +kernel
theorem dX7_init_42 : decode cX7_init 42 = .ok (.goto (-20), 3) := by decide +kernel
theorem dX7_init_45 : decode cX7_init 45 = .ok (.return_, 1) := by decide +kernel
theorem dX7_billedTo_0 : decode cX7_billedTo 0 = .ok (.iload_n 1, 1) := by decide +kernel
theorem dX7_billedTo_1 : decode cX7_billedTo 1 = .ok (.ifCond .lt 21, 3) := by decide +kernel
theorem dX7_billedTo_4 : decode cX7_billedTo 4 = .ok (.iload_n 1, 1) := by decide +kernel
theorem dX7_billedTo_5 : decode cX7_billedTo 5 = .ok (.aload_n 0, 1) := by decide +kernel
theorem dX7_billedTo_6 : decode cX7_billedTo 6 = .ok (.getfield 9, 3) := by decide +kernel
theorem dX7_billedTo_9 : decode cX7_billedTo 9 = .ok (.arraylength, 1) := by decide +kernel
theorem dX7_billedTo_10 : decode cX7_billedTo 10 = .ok (.if_icmp .ge 12, 3) := by decide +kernel
theorem dX7_billedTo_13 : decode cX7_billedTo 13 = .ok (.aload_n 0, 1) := by decide +kernel
theorem dX7_billedTo_14 : decode cX7_billedTo 14 = .ok (.getfield 9, 3) := by decide +kernel
theorem dX7_billedTo_17 : decode cX7_billedTo 17 = .ok (.iload_n 1, 1) := by decide +kernel
theorem dX7_billedTo_18 : decode cX7_billedTo 18 = .ok (.iaload, 1) := by decide +kernel
theorem dX7_billedTo_19 : decode cX7_billedTo 19 = .ok (.goto 5, 3) := by decide +kernel
theorem dX7_billedTo_22 : decode cX7_billedTo 22 = .ok (.bipush (-4), 2) := by decide +kernel
theorem dX7_billedTo_24 : decode cX7_billedTo 24 = .ok (.ireturn, 1) := by decide +kernel
theorem dX7_paidBy_0 : decode cX7_paidBy 0 = .ok (.iload_n 1, 1) := by decide +kernel
theorem dX7_paidBy_1 : decode cX7_paidBy 1 = .ok (.ifCond .lt 21, 3) := by decide +kernel
theorem dX7_paidBy_4 : decode cX7_paidBy 4 = .ok (.iload_n 1, 1) := by decide +kernel
theorem dX7_paidBy_5 : decode cX7_paidBy 5 = .ok (.aload_n 0, 1) := by decide +kernel
theorem dX7_paidBy_6 : decode cX7_paidBy 6 = .ok (.getfield 15, 3) := by decide +kernel
theorem dX7_paidBy_9 : decode cX7_paidBy 9 = .ok (.arraylength, 1) := by decide +kernel
theorem dX7_paidBy_10 : decode cX7_paidBy 10 = .ok (.if_icmp .ge 12, 3) := by decide +kernel
theorem dX7_paidBy_13 : decode cX7_paidBy 13 = .ok (.aload_n 0, 1) := by decide +kernel
theorem dX7_paidBy_14 : decode cX7_paidBy 14 = .ok (.getfield 15, 3) := by decide +kernel
theorem dX7_paidBy_17 : decode cX7_paidBy 17 = .ok (.iload_n 1, 1) := by decide +kernel
theorem dX7_paidBy_18 : decode cX7_paidBy 18 = .ok (.iaload, 1) := by decide +kernel
theorem dX7_paidBy_19 : decode cX7_paidBy 19 = .ok (.goto 4, 3) := by decide +kernel
theorem dX7_paidBy_22 : decode cX7_paidBy 22 = .ok (.iconst 0, 1) := by decide +kernel
theorem dX7_paidBy_23 : decode cX7_paidBy 23 = .ok (.ireturn, 1) := by decide +kernel
theorem dX7_putBilled_0 : decode cX7_putBilled 0 = .ok (.iload_n 1, 1) := by decide +kernel
theorem dX7_putBilled_1 : decode cX7_putBilled 1 = .ok (.ifCond .lt 19, 3) := by decide +kernel
theorem dX7_putBilled_4 : decode cX7_putBilled 4 = .ok (.iload_n 1, 1) := by decide +kernel
theorem dX7_putBilled_5 : decode cX7_putBilled 5 = .ok (.aload_n 0, 1) := by decide +kernel
theorem dX7_putBilled_6 : decode cX7_putBilled 6 = .ok (.getfield 9, 3) := by decide +kernel
theorem dX7_putBilled_9 : decode cX7_putBilled 9 = .ok (.arraylength, 1) := by decide +kernel
theorem dX7_putBilled_10 : decode cX7_putBilled 10 = .ok (.if_icmp .ge 10, 3) := by decide +kernel
theorem dX7_putBilled_13 : decode cX7_putBilled 13 = .ok (.aload_n 0, 1) := by decide +kernel
theorem dX7_putBilled_14 : decode cX7_putBilled 14 = .ok (.getfield 9, 3) := by decide +kernel
theorem dX7_putBilled_17 : decode cX7_putBilled 17 = .ok (.iload_n 1, 1) := by decide +kernel
theorem dX7_putBilled_18 : decode cX7_putBilled 18 = .ok (.iload_n 2, 1) := by decide +kernel
theorem dX7_putBilled_19 : decode cX7_putBilled 19 = .ok (.iastore, 1) := by decide +kernel
theorem dX7_putBilled_20 : decode cX7_putBilled 20 = .ok (.return_, 1) := by decide +kernel
theorem dX7_putPaid_0 : decode cX7_putPaid 0 = .ok (.iload_n 1, 1) := by decide +kernel
theorem dX7_putPaid_1 : decode cX7_putPaid 1 = .ok (.ifCond .lt 19, 3) := by decide +kernel
theorem dX7_putPaid_4 : decode cX7_putPaid 4 = .ok (.iload_n 1, 1) := by decide +kernel
theorem dX7_putPaid_5 : decode cX7_putPaid 5 = .ok (.aload_n 0, 1) := by decide +kernel
theorem dX7_putPaid_6 : decode cX7_putPaid 6 = .ok (.getfield 15, 3) := by decide +kernel
theorem dX7_putPaid_9 : decode cX7_putPaid 9 = .ok (.arraylength, 1) := by decide +kernel
theorem dX7_putPaid_10 : decode cX7_putPaid 10 = .ok (.if_icmp .ge 10, 3) := by decide +kernel
theorem dX7_putPaid_13 : decode cX7_putPaid 13 = .ok (.aload_n 0, 1) := by decide +kernel
theorem dX7_putPaid_14 : decode cX7_putPaid 14 = .ok (.getfield 15, 3) := by decide +kernel
theorem dX7_putPaid_17 : decode cX7_putPaid 17 = .ok (.iload_n 1, 1) := by decide +kernel
theorem dX7_putPaid_18 : decode cX7_putPaid 18 = .ok (.iload_n 2, 1) := by decide +kernel
theorem dX7_putPaid_19 : decode cX7_putPaid 19 = .ok (.iastore, 1) := by decide +kernel
theorem dX7_putPaid_20 : decode cX7_putPaid 20 = .ok (.return_, 1) := by decide +kernel
set_option maxRecDepth 20000 in
theorem ggX8_init_X5_init : GoodIn wsX8_init wsX5_init := goodIn_r _ [20, 21, 2, 3, 22, 23, 37, 38] (by decide +kernel) (by decide +kernel)
set_option maxRecDepth 20000 in
theorem gX8_init_X5_init : GoodIn wsX8_init (wsX5_init) := ggX8_init_X5_init
set_option maxRecDepth 20000 in
theorem ggX8_init_X3_init : GoodIn wsX8_init wsX3_init := goodIn_r _ [26, 27, 2, 3, 28, 29, 43, 44] (by decide +kernel) (by decide +kernel)
set_option maxRecDepth 20000 in
theorem gX8_init_X3_init : GoodIn wsX8_init (wsX3_init) := ggX8_init_X3_init
set_option maxRecDepth 20000 in
theorem ggX8_init_X7_init : GoodIn wsX8_init wsX7_init := goodIn_r _ [32, 33, 2, 3, 34, 35, 36, 45, 46, 47, 48, 49] (by decide +kernel) (by decide +kernel)
set_option maxRecDepth 20000 in
theorem gX8_init_X7_init : GoodIn wsX8_init (wsX7_init) := ggX8_init_X7_init
theorem dX8_init_0 : decode cX8_init 0 = .ok (.aload_n 0, 1) := by decide +kernel
theorem dX8_init_1 : decode cX8_init 1 = .ok (.invokespecial 3, 3) := by decide +kernel
theorem dX8_init_4 : decode cX8_init 4 = .ok (.aload_n 0, 1) := by decide +kernel
theorem dX8_init_5 : decode cX8_init 5 = .ok (.new 9, 3) := by decide +kernel
theorem dX8_init_8 : decode cX8_init 8 = .ok (.dup, 1) := by decide +kernel
theorem dX8_init_9 : decode cX8_init 9 = .ok (.invokespecial 11, 3) := by decide +kernel
theorem dX8_init_12 : decode cX8_init 12 = .ok (.putfield 12, 3) := by decide +kernel
theorem dX8_init_15 : decode cX8_init 15 = .ok (.aload_n 0, 1) := by decide +kernel
theorem dX8_init_16 : decode cX8_init 16 = .ok (.new 16, 3) := by decide +kernel
theorem dX8_init_19 : decode cX8_init 19 = .ok (.dup, 1) := by decide +kernel
theorem dX8_init_20 : decode cX8_init 20 = .ok (.invokespecial 18, 3) := by decide +kernel
theorem dX8_init_23 : decode cX8_init 23 = .ok (.putfield 19, 3) := by decide +kernel
theorem dX8_init_26 : decode cX8_init 26 = .ok (.aload_n 0, 1) := by decide +kernel
theorem dX8_init_27 : decode cX8_init 27 = .ok (.bipush 40, 2) := by decide +kernel
theorem dX8_init_29 : decode cX8_init 29 = .ok (.newarray .long, 2) := by decide +kernel
theorem dX8_init_31 : decode cX8_init 31 = .ok (.putfield 23, 3) := by decide +kernel
theorem dX8_init_34 : decode cX8_init 34 = .ok (.aload_n 0, 1) := by decide +kernel
theorem dX8_init_35 : decode cX8_init 35 = .ok (.bipush 10, 2) := by decide +kernel
theorem dX8_init_37 : decode cX8_init 37 = .ok (.anewarray 27, 3) := by decide +kernel
theorem dX8_init_40 : decode cX8_init 40 = .ok (.putfield 29, 3) := by decide +kernel
theorem dX8_init_43 : decode cX8_init 43 = .ok (.iconst 0, 1) := by decide +kernel
theorem dX8_init_44 : decode cX8_init 44 = .ok (.istore_n 1, 1) := by decide +kernel
theorem dX8_init_45 : decode cX8_init 45 = .ok (.iload_n 1, 1) := by decide +kernel
theorem dX8_init_46 : decode cX8_init 46 = .ok (.aload_n 0, 1) := by decide +kernel
theorem dX8_init_47 : decode cX8_init 47 = .ok (.getfield 29, 3) := by decide +kernel
theorem dX8_init_50 : decode cX8_init 50 = .ok (.arraylength, 1) := by decide +kernel
theorem dX8_init_51 : decode cX8_init 51 = .ok (.if_icmp .ge 22, 3) := by decide +kernel
theorem dX8_init_54 : decode cX8_init 54 = .ok (.aload_n 0, 1) := by decide +kernel
theorem dX8_init_55 : decode cX8_init 55 = .ok (.getfield 29, 3) := by decide +kernel
theorem dX8_init_58 : decode cX8_init 58 = .ok (.iload_n 1, 1) := by decide +kernel
theorem dX8_init_59 : decode cX8_init 59 = .ok (.new 27, 3) := by decide +kernel
theorem dX8_init_62 : decode cX8_init 62 = .ok (.dup, 1) := by decide +kernel
theorem dX8_init_63 : decode cX8_init 63 = .ok (.invokespecial 33, 3) := by decide +kernel
theorem dX8_init_66 : decode cX8_init 66 = .ok (.aastore, 1) := by decide +kernel
theorem dX8_init_67 : decode cX8_init 67 = .ok (.iinc 1 1, 3) := by decide +kernel
theorem dX8_init_70 : decode cX8_init 70 = .ok (.goto (-25), 3) := by decide +kernel
theorem dX8_init_73 : decode cX8_init 73 = .ok (.return_, 1) := by decide +kernel
set_option maxRecDepth 20000 in
theorem ggX8_house_X8_isOf : GoodIn wsX8_house wsX8_isOf := goodIn_r _ [6] (by decide +kernel) (by decide +kernel)
set_option maxRecDepth 20000 in
theorem gX8_house_X8_isOf : GoodIn wsX8_house (va_wsS RX8 34 yX8_isOf wsX8_isOf) := goodIn_app (goodIn_of _ (by decide +kernel)) ggX8_house_X8_isOf
set_option maxRecDepth 20000 in
theorem ggX8_house_X8_isWithin : GoodIn wsX8_house wsX8_isWithin := goodIn_r _ [9] (by decide +kernel) (by decide +kernel)
set_option maxRecDepth 20000 in
theorem gX8_house_X8_isWithin : GoodIn wsX8_house (va_wsS RX8 38 yX8_isWithin wsX8_isWithin) := goodIn_app (goodIn_of _ (by decide +kernel)) ggX8_house_X8_isWithin
set_option maxRecDepth 20000 in
theorem ggX8_house_X5_add : GoodIn wsX8_house wsX5_add := goodIn_r _ [14, 15, 16, 17, 18, 19, 20, 21, 22, 23, 24, 25, 26, 27, 28, 29, 30, 31, 32, 33, 34, 35, 36, 37, 38, 39, 40, 41, 46, 47, 48, 49, 50, 51, 52, 53, 54, 55, 56] (by decide +kernel) (by decide +kernel)
set_option maxRecDepth 20000 in
theorem gX8_house_X5_add : GoodIn wsX8_house (wsV RX8 43 RX5 yX5_add wsX5_add) := goodIn_app (goodIn_of _ (by decide +kernel)) ggX8_house_X5_add
theorem dX8_house_0 : decode cX8_house 0 = .ok (.iload_n 1, 1) := by decide +kernel
theorem dX8_house_1 : decode cX8_house 1 = .ok (.iconst 4, 1) := by decide +kernel
theorem dX8_house_2 : decode cX8_house 2 = .ok (.invokestatic 34, 3) := by decide +kernel
theorem dX8_house_5 : decode cX8_house 5 = .ok (.ifCond .eq 43, 3) := by decide +kernel
theorem dX8_house_8 : decode cX8_house 8 = .ok (.iload_n 2, 1) := by decide +kernel
theorem dX8_house_9 : decode cX8_house 9 = .ok (.iconst 3, 1) := by decide +kernel
theorem dX8_house_10 : decode cX8_house 10 = .ok (.invokestatic 34, 3) := by decide +kernel
theorem dX8_house_13 : decode cX8_house 13 = .ok (.ifCond .eq 35, 3) := by decide +kernel
theorem dX8_house_16 : decode cX8_house 16 = .ok (.iload_n 3, 1) := by decide +kernel
theorem dX8_house_17 : decode cX8_house 17 = .ok (.bipush 6, 2) := by decide +kernel
theorem dX8_house_19 : decode cX8_house 19 = .ok (.invokestatic 34, 3) := by decide +kernel
theorem dX8_house_22 : decode cX8_house 22 = .ok (.ifCond .eq 26, 3) := by decide +kernel
theorem dX8_house_25 : decode cX8_house 25 = .ok (.iload 4, 2) := by decide +kernel
theorem dX8_house_27 : decode cX8_house 27 = .ok (.iconst 1, 1) := by decide +kernel
theorem dX8_house_28 : decode cX8_house 28 = .ok (.sipush 500, 3) := by decide +kernel
theorem dX8_house_31 : decode cX8_house 31 = .ok (.invokestatic 38, 3) := by decide +kernel
theorem dX8_house_34 : decode cX8_house 34 = .ok (.ifCond .eq 14, 3) := by decide +kernel
theorem dX8_house_37 : decode cX8_house 37 = .ok (.iload 5, 2) := by decide +kernel
theorem dX8_house_39 : decode cX8_house 39 = .ok (.iconst 0, 1) := by decide +kernel
theorem dX8_house_40 : decode cX8_house 40 = .ok (.ldc 42, 2) := by decide +kernel
theorem dX8_house_42 : decode cX8_house 42 = .ok (.invokestatic 38, 3) := by decide +kernel
theorem dX8_house_45 : decode cX8_house 45 = .ok (.ifCond .ne 5, 3) := by decide +kernel
theorem dX8_house_48 : decode cX8_house 48 = .ok (.iconst (-1), 1) := by decide +kernel
theorem dX8_house_49 : decode cX8_house 49 = .ok (.ireturn, 1) := by decide +kernel
theorem dX8_house_50 : decode cX8_house 50 = .ok (.aload_n 0, 1) := by decide +kernel
theorem dX8_house_51 : decode cX8_house 51 = .ok (.getfield 12, 3) := by decide +kernel
theorem dX8_house_54 : decode cX8_house 54 = .ok (.iload_n 1, 1) := by decide +kernel
theorem dX8_house_55 : decode cX8_house 55 = .ok (.iload_n 2, 1) := by decide +kernel
theorem dX8_house_56 : decode cX8_house 56 = .ok (.iload_n 3, 1) := by decide +kernel
theorem dX8_house_57 : decode cX8_house 57 = .ok (.iload 4, 2) := by decide +kernel
theorem dX8_house_59 : decode cX8_house 59 = .ok (.iload 5, 2) := by decide +kernel
theorem dX8_house_61 : decode cX8_house 61 = .ok (.invokevirtual 43, 3) := by decide +kernel
theorem dX8_house_64 : decode cX8_house 64 = .ok (.ireturn, 1) := by decide +kernel
end
section
set_option maxRecDepth 20000 in
theorem ggX8_rent_X5_at : GoodIn wsX8_rent wsX5_at := goodIn_r _ [8, 9, 25, 26] (by decide +kernel) (by decide +kernel)
set_option maxRecDepth 20000 in
theorem gX8_rent_X5_at : GoodIn wsX8_rent (wsV RX8 47 RX5 yX5_at wsX5_at) := goodIn_app (goodIn_of _ (by decide +kernel)) ggX8_rent_X5_at
set_option maxRecDepth 20000 in
theorem ggX8_rent_X8_isWithin : GoodIn wsX8_rent wsX8_isWithin := goodIn_r _ [13] (by decide +kernel) (by decide +kernel)
set_option maxRecDepth 20000 in
theorem gX8_rent_X8_isWithin : GoodIn wsX8_rent (va_wsS RX8 38 yX8_isWithin wsX8_isWithin) := goodIn_app (goodIn_of _ (by decide +kernel)) ggX8_rent_X8_isWithin
theorem dX8_rent_0 : decode cX8_rent 0 = .ok (.aload_n 0, 1) := by decide +kernel
theorem dX8_rent_1 : decode cX8_rent 1 = .ok (.getfield 12, 3) := by decide +kernel
theorem dX8_rent_4 : decode cX8_rent 4 = .ok (.iload_n 1, 1) := by decide +kernel
theorem dX8_rent_5 : decode cX8_rent 5 = .ok (.invokevirtual 47, 3) := by decide +kernel
theorem dX8_rent_8 : decode cX8_rent 8 = .ok (.astore_n 3, 1) := by decide +kernel
theorem dX8_rent_9 : decode cX8_rent 9 = .ok (.aload_n 3, 1) := by decide +kernel
theorem dX8_rent_10 : decode cX8_rent 10 = .ok (.ifnull 13, 3) := by decide +kernel
theorem dX8_rent_13 : decode cX8_rent 13 = .ok (.iload_n 2, 1) := by decide +kernel
theorem dX8_rent_14 : decode cX8_rent 14 = .ok (.iconst 0, 1) := by decide +kernel
theorem dX8_rent_15 : decode cX8_rent 15 = .ok (.ldc 42, 2) := by decide +kernel
theorem dX8_rent_17 : decode cX8_rent 17 = .ok (.invokestatic 38, 3) := by decide +kernel
theorem dX8_rent_20 : decode cX8_rent 20 = .ok (.ifCond .ne 5, 3) := by decide +kernel
theorem dX8_rent_23 : decode cX8_rent 23 = .ok (.iconst (-1), 1) := by decide +kernel
theorem dX8_rent_24 : decode cX8_rent 24 = .ok (.ireturn, 1) := by decide +kernel
theorem dX8_rent_25 : decode cX8_rent 25 = .ok (.aload_n 3, 1) := by decide +kernel
theorem dX8_rent_26 : decode cX8_rent 26 = .ok (.getfield 51, 3) := by decide +kernel
theorem dX8_rent_29 : decode cX8_rent 29 = .ok (.istore 4, 2) := by decide +kernel
theorem dX8_rent_31 : decode cX8_rent 31 = .ok (.aload_n 3, 1) := by decide +kernel
theorem dX8_rent_32 : decode cX8_rent 32 = .ok (.iload_n 2, 1) := by decide +kernel
theorem dX8_rent_33 : decode cX8_rent 33 = .ok (.putfield 51, 3) := by decide +kernel
theorem dX8_rent_36 : decode cX8_rent 36 = .ok (.iload 4, 2) := by decide +kernel
theorem dX8_rent_38 : decode cX8_rent 38 = .ok (.ireturn, 1) := by decide +kernel
set_option maxRecDepth 20000 in
theorem ggX8_unit_X8_isOf : GoodIn wsX8_unit wsX8_isOf := goodIn_r _ [9] (by decide +kernel) (by decide +kernel)
set_option maxRecDepth 20000 in
theorem gX8_unit_X8_isOf : GoodIn wsX8_unit (va_wsS RX8 34 yX8_isOf wsX8_isOf) := goodIn_app (goodIn_of _ (by decide +kernel)) ggX8_unit_X8_isOf
set_option maxRecDepth 20000 in
theorem ggX8_unit_X5_unitOf : GoodIn wsX8_unit wsX5_unitOf := goodIn_r _ [14, 15, 16, 17, 18, 19, 20, 21, 22, 23, 13, 24, 25, 26, 27, 28, 29, 30, 31, 32, 33, 34, 35, 36, 37, 38, 39, 40, 41, 42, 43, 44, 45, 46, 47, 48, 49, 50, 51, 52, 53, 54, 55, 56, 57, 62, 63, 64, 65, 66, 67, 68, 69, 70, 71, 72, 73, 74] (by decide +kernel) (by decide +kernel)
set_option maxRecDepth 20000 in
theorem gX8_unit_X5_unitOf : GoodIn wsX8_unit (wsV RX8 57 RX5 yX5_unitOf wsX5_unitOf) := goodIn_app (goodIn_of _ (by decide +kernel)) ggX8_unit_X5_unitOf
theorem dX8_unit_0 : decode cX8_unit 0 = .ok (.iload_n 1, 1) := by decide +kernel
theorem dX8_unit_1 : decode cX8_unit 1 = .ok (.iconst 3, 1) := by decide +kernel
theorem dX8_unit_2 : decode cX8_unit 2 = .ok (.invokestatic 34, 3) := by decide +kernel
theorem dX8_unit_5 : decode cX8_unit 5 = .ok (.ifCond .eq 12, 3) := by decide +kernel
theorem dX8_unit_8 : decode cX8_unit 8 = .ok (.iload_n 2, 1) := by decide +kernel
theorem dX8_unit_9 : decode cX8_unit 9 = .ok (.bipush 6, 2) := by decide +kernel
theorem dX8_unit_11 : decode cX8_unit 11 = .ok (.invokestatic 34, 3) := by decide +kernel
theorem dX8_unit_14 : decode cX8_unit 14 = .ok (.ifCond .ne 5, 3) := by decide +kernel
theorem dX8_unit_17 : decode cX8_unit 17 = .ok (.iconst (-1), 1) := by decide +kernel
theorem dX8_unit_18 : decode cX8_unit 18 = .ok (.ireturn, 1) := by decide +kernel
theorem dX8_unit_19 : decode cX8_unit 19 = .ok (.aload_n 0, 1) := by decide +kernel
theorem dX8_unit_20 : decode cX8_unit 20 = .ok (.getfield 12, 3) := by decide +kernel
theorem dX8_unit_23 : decode cX8_unit 23 = .ok (.iload_n 1, 1) := by decide +kernel
theorem dX8_unit_24 : decode cX8_unit 24 = .ok (.iload_n 2, 1) := by decide +kernel
theorem dX8_unit_25 : decode cX8_unit 25 = .ok (.iconst (-1), 1) := by decide +kernel
theorem dX8_unit_26 : decode cX8_unit 26 = .ok (.invokevirtual 57, 3) := by decide +kernel
theorem dX8_unit_29 : decode cX8_unit 29 = .ok (.astore 4, 2) := by decide +kernel
theorem dX8_unit_31 : decode cX8_unit 31 = .ok (.iload_n 3, 1) := by decide +kernel
theorem dX8_unit_32 : decode cX8_unit 32 = .ok (.tableswitch 56 0 3 #[32, 38, 44, 50], 32) := by decide +kernel
theorem dX8_unit_64 : decode cX8_unit 64 = .ok (.aload 4, 2) := by decide +kernel
theorem dX8_unit_66 : decode cX8_unit 66 = .ok (.getfield 61, 3) := by decide +kernel
theorem dX8_unit_69 : decode cX8_unit 69 = .ok (.ireturn, 1) := by decide +kernel
theorem dX8_unit_70 : decode cX8_unit 70 = .ok (.aload 4, 2) := by decide +kernel
theorem dX8_unit_72 : decode cX8_unit 72 = .ok (.getfield 66, 3) := by decide +kernel
theorem dX8_unit_75 : decode cX8_unit 75 = .ok (.ireturn, 1) := by decide +kernel
theorem dX8_unit_76 : decode cX8_unit 76 = .ok (.aload 4, 2) := by decide +kernel
theorem dX8_unit_78 : decode cX8_unit 78 = .ok (.getfield 69, 3) := by decide +kernel
theorem dX8_unit_81 : decode cX8_unit 81 = .ok (.ireturn, 1) := by decide +kernel
theorem dX8_unit_82 : decode cX8_unit 82 = .ok (.aload 4, 2) := by decide +kernel
theorem dX8_unit_84 : decode cX8_unit 84 = .ok (.getfield 72, 3) := by decide +kernel
theorem dX8_unit_87 : decode cX8_unit 87 = .ok (.ireturn, 1) := by decide +kernel
theorem dX8_unit_88 : decode cX8_unit 88 = .ok (.iconst (-1), 1) := by decide +kernel
theorem dX8_unit_89 : decode cX8_unit 89 = .ok (.ireturn, 1) := by decide +kernel
set_option maxRecDepth 20000 in
theorem ggX8_tested_X5_at : GoodIn wsX8_tested wsX5_at := goodIn_r _ [10, 11, 73, 74] (by decide +kernel) (by decide +kernel)
set_option maxRecDepth 20000 in
theorem gX8_tested_X5_at : GoodIn wsX8_tested (wsV RX8 47 RX5 yX5_at wsX5_at) := goodIn_app (goodIn_of _ (by decide +kernel)) ggX8_tested_X5_at
set_option maxRecDepth 20000 in
theorem ggX8_tested_X5_unitOf : GoodIn wsX8_tested wsX5_unitOf := goodIn_r _ [15, 16, 17, 18, 19, 20, 21, 22, 23, 24, 9, 25, 11, 26, 27, 28, 29, 30, 31, 32, 33, 34, 35, 36, 37, 38, 39, 40, 41, 42, 43, 44, 45, 46, 47, 48, 49, 50, 51, 52, 53, 54, 55, 56, 57, 75, 76, 77, 78, 66, 67, 68, 69, 70, 71, 72, 73, 74] (by decide +kernel) (by decide +kernel)
set_option maxRecDepth 20000 in
theorem gX8_tested_X5_unitOf : GoodIn wsX8_tested (wsV RX8 57 RX5 yX5_unitOf wsX5_unitOf) := goodIn_app (goodIn_of _ (by decide +kernel)) ggX8_tested_X5_unitOf
set_option maxRecDepth 20000 in
theorem ggX8_tested_X6_times : GoodIn wsX8_tested wsX6_times := goodIn_r _ [61, 55, 54, 75, 76, 77, 78] (by decide +kernel) (by decide +kernel)
set_option maxRecDepth 20000 in
theorem gX8_tested_X6_times : GoodIn wsX8_tested (wsV RX8 87 RX6 yX6_times wsX6_times) := goodIn_app (goodIn_of _ (by decide +kernel)) ggX8_tested_X6_times
theorem dX8_tested_0 : decode cX8_tested 0 = .ok (.aload_n 0, 1) := by decide +kernel
theorem dX8_tested_1 : decode cX8_tested 1 = .ok (.getfield 12, 3) := by decide +kernel
theorem dX8_tested_4 : decode cX8_tested 4 = .ok (.iload_n 1, 1) := by decide +kernel
theorem dX8_tested_5 : decode cX8_tested 5 = .ok (.invokevirtual 47, 3) := by decide +kernel
theorem dX8_tested_8 : decode cX8_tested 8 = .ok (.astore_n 2, 1) := by decide +kernel
theorem dX8_tested_9 : decode cX8_tested 9 = .ok (.aload_n 2, 1) := by decide +kernel
theorem dX8_tested_10 : decode cX8_tested 10 = .ok (.ifnonnull 5, 3) := by decide +kernel
theorem dX8_tested_13 : decode cX8_tested 13 = .ok (.iconst (-1), 1) := by decide +kernel
theorem dX8_tested_14 : decode cX8_tested 14 = .ok (.ireturn, 1) := by decide +kernel
theorem dX8_tested_15 : decode cX8_tested 15 = .ok (.aload_n 0, 1) := by decide +kernel
theorem dX8_tested_16 : decode cX8_tested 16 = .ok (.getfield 12, 3) := by decide +kernel
theorem dX8_tested_19 : decode cX8_tested 19 = .ok (.aload_n 2, 1) := by decide +kernel
theorem dX8_tested_20 : decode cX8_tested 20 = .ok (.getfield 75, 3) := by decide +kernel
theorem dX8_tested_23 : decode cX8_tested 23 = .ok (.aload_n 2, 1) := by decide +kernel
theorem dX8_tested_24 : decode cX8_tested 24 = .ok (.getfield 78, 3) := by decide +kernel
theorem dX8_tested_27 : decode cX8_tested 27 = .ok (.aload_n 2, 1) := by decide +kernel
theorem dX8_tested_28 : decode cX8_tested 28 = .ok (.getfield 81, 3) := by decide +kernel
theorem dX8_tested_31 : decode cX8_tested 31 = .ok (.invokevirtual 57, 3) := by decide +kernel
theorem dX8_tested_34 : decode cX8_tested 34 = .ok (.aload_n 2, 1) := by decide +kernel
theorem dX8_tested_35 : decode cX8_tested 35 = .ok (.getfield 84, 3) := by decide +kernel
theorem dX8_tested_38 : decode cX8_tested 38 = .ok (.invokevirtual 87, 3) := by decide +kernel
theorem dX8_tested_41 : decode cX8_tested 41 = .ok (.l2i, 1) := by decide +kernel
theorem dX8_tested_42 : decode cX8_tested 42 = .ok (.ireturn, 1) := by decide +kernel
set_option maxRecDepth 20000 in
theorem ggX8_list_X8_isOf : GoodIn wsX8_list wsX8_isOf := goodIn_r _ [6] (by decide +kernel) (by decide +kernel)
set_option maxRecDepth 20000 in
theorem gX8_list_X8_isOf : GoodIn wsX8_list (va_wsS RX8 34 yX8_isOf wsX8_isOf) := goodIn_app (goodIn_of _ (by decide +kernel)) ggX8_list_X8_isOf
set_option maxRecDepth 20000 in
theorem ggX8_list_X3_reach : GoodIn wsX8_list wsX3_reach := goodIn_r _ [11, 12, 13, 14, 15, 16, 10, 17, 18, 89, 90, 91, 92] (by decide +kernel) (by decide +kernel)
set_option maxRecDepth 20000 in
theorem gX8_list_X3_reach : GoodIn wsX8_list (wsV RX8 91 RX3 yX3_reach wsX3_reach) := goodIn_app (goodIn_of _ (by decide +kernel)) ggX8_list_X3_reach
set_option maxRecDepth 20000 in
theorem ggX8_list_X3_isFull : GoodIn wsX8_list wsX3_isFull := goodIn_r _ [22, 12, 18, 89, 90] (by decide +kernel) (by decide +kernel)
set_option maxRecDepth 20000 in
theorem gX8_list_X3_isFull : GoodIn wsX8_list (wsV RX8 95 RX3 yX3_isFull wsX3_isFull) := goodIn_app (goodIn_of _ (by decide +kernel)) ggX8_list_X3_isFull
set_option maxRecDepth 20000 in
theorem ggX8_list_X3_add : GoodIn wsX8_list wsX3_add := goodIn_r _ [26, 12, 18, 27, 28, 29, 30, 31, 32, 33, 34, 35, 36, 37, 38, 39, 40, 41, 42, 43, 44, 45, 46, 47, 48, 49, 50, 51, 52, 53, 54, 55, 56, 57, 58, 59, 60, 61, 62, 63, 64, 65, 66, 67, 68, 69, 70, 71, 72, 73, 74, 75, 76, 77, 78, 79, 80, 81, 82, 83, 84, 89, 90, 91, 92, 93, 94, 95, 96, 97, 98, 99, 100, 101, 102, 103, 104, 105] (by decide +kernel) (by decide +kernel)
set_option maxRecDepth 20000 in
theorem gX8_list_X3_add : GoodIn wsX8_list (wsV RX8 99 RX3 yX3_add wsX3_add) := goodIn_app (goodIn_of _ (by decide +kernel)) ggX8_list_X3_add
theorem dX8_list_0 : decode cX8_list 0 = .ok (.iload_n 1, 1) := by decide +kernel
theorem dX8_list_1 : decode cX8_list 1 = .ok (.sipush 3650, 3) := by decide +kernel
theorem dX8_list_4 : decode cX8_list 4 = .ok (.invokestatic 34, 3) := by decide +kernel
theorem dX8_list_7 : decode cX8_list 7 = .ok (.ifCond .ne 5, 3) := by decide +kernel
theorem dX8_list_10 : decode cX8_list 10 = .ok (.iconst (-1), 1) := by decide +kernel
theorem dX8_list_11 : decode cX8_list 11 = .ok (.ireturn, 1) := by decide +kernel
theorem dX8_list_12 : decode cX8_list 12 = .ok (.aload_n 0, 1) := by decide +kernel
theorem dX8_list_13 : decode cX8_list 13 = .ok (.getfield 19, 3) := by decide +kernel
theorem dX8_list_16 : decode cX8_list 16 = .ok (.iload_n 1, 1) := by decide +kernel
theorem dX8_list_17 : decode cX8_list 17 = .ok (.invokevirtual 91, 3) := by decide +kernel
theorem dX8_list_20 : decode cX8_list 20 = .ok (.ifCond .eq 6, 3) := by decide +kernel
theorem dX8_list_23 : decode cX8_list 23 = .ok (.bipush (-2), 2) := by decide +kernel
theorem dX8_list_25 : decode cX8_list 25 = .ok (.ireturn, 1) := by decide +kernel
theorem dX8_list_26 : decode cX8_list 26 = .ok (.aload_n 0, 1) := by decide +kernel
theorem dX8_list_27 : decode cX8_list 27 = .ok (.getfield 19, 3) := by decide +kernel
theorem dX8_list_30 : decode cX8_list 30 = .ok (.invokevirtual 95, 3) := by decide +kernel
theorem dX8_list_33 : decode cX8_list 33 = .ok (.ifCond .eq 8, 3) := by decide +kernel
theorem dX8_list_36 : decode cX8_list 36 = .ok (.bipush (-3), 2) := by decide +kernel
theorem dX8_list_38 : decode cX8_list 38 = .ok (.goto 15, 3) := by decide +kernel
theorem dX8_list_41 : decode cX8_list 41 = .ok (.aload_n 0, 1) := by decide +kernel
theorem dX8_list_42 : decode cX8_list 42 = .ok (.getfield 19, 3) := by decide +kernel
theorem dX8_list_45 : decode cX8_list 45 = .ok (.iload_n 1, 1) := by decide +kernel
theorem dX8_list_46 : decode cX8_list 46 = .ok (.aload_n 0, 1) := by decide +kernel
theorem dX8_list_47 : decode cX8_list 47 = .ok (.getfield 12, 3) := by decide +kernel
theorem dX8_list_50 : decode cX8_list 50 = .ok (.invokevirtual 99, 3) := by decide +kernel
theorem dX8_list_53 : decode cX8_list 53 = .ok (.ireturn, 1) := by decide +kernel
set_option maxRecDepth 20000 in
theorem ggX8_event_X5_at : GoodIn wsX8_event wsX5_at := goodIn_r _ [7, 8, 57, 58] (by decide +kernel) (by decide +kernel)
set_option maxRecDepth 20000 in
theorem gX8_event_X5_at : GoodIn wsX8_event (wsV RX8 47 RX5 yX5_at wsX5_at) := goodIn_app (goodIn_of _ (by decide +kernel)) ggX8_event_X5_at
set_option maxRecDepth 20000 in
theorem ggX8_event_X8_isOf : GoodIn wsX8_event wsX8_isOf := goodIn_r _ [12] (by decide +kernel) (by decide +kernel)
set_option maxRecDepth 20000 in
theorem gX8_event_X8_isOf : GoodIn wsX8_event (va_wsS RX8 34 yX8_isOf wsX8_isOf) := goodIn_app (goodIn_of _ (by decide +kernel)) ggX8_event_X8_isOf
set_option maxRecDepth 20000 in
theorem ggX8_event_X8_isEvent : GoodIn wsX8_event wsX8_isEvent := goodIn_r _ [15, 16, 17, 11, 18] (by decide +kernel) (by decide +kernel)
set_option maxRecDepth 20000 in
theorem gX8_event_X8_isEvent : GoodIn wsX8_event (va_wsS RX8 102 yX8_isEvent wsX8_isEvent) := goodIn_app (goodIn_of _ (by decide +kernel)) ggX8_event_X8_isEvent
set_option maxRecDepth 20000 in
theorem ggX8_event_X1_isFull : GoodIn wsX8_event wsX1_isFull := goodIn_r _ [23, 24, 25, 55, 56] (by decide +kernel) (by decide +kernel)
set_option maxRecDepth 20000 in
theorem gX8_event_X1_isFull : GoodIn wsX8_event (wsV RX8 109 RX1 yX1_isFull wsX1_isFull) := goodIn_app (goodIn_of _ (by decide +kernel)) ggX8_event_X1_isFull
set_option maxRecDepth 20000 in
theorem ggX8_event_X1_add : GoodIn wsX8_event wsX1_add := goodIn_r _ [29, 24, 25, 30, 31, 32, 33, 34, 35, 36, 37, 38, 39, 40, 41, 42, 43, 55, 56, 59, 60, 61, 62] (by decide +kernel) (by decide +kernel)
set_option maxRecDepth 20000 in
theorem gX8_event_X1_add : GoodIn wsX8_event (wsV RX8 112 RX1 yX1_add wsX1_add) := goodIn_app (goodIn_of _ (by decide +kernel)) ggX8_event_X1_add
theorem dX8_event_0 : decode cX8_event 0 = .ok (.aload_n 0, 1) := by decide +kernel
theorem dX8_event_1 : decode cX8_event 1 = .ok (.getfield 12, 3) := by decide +kernel
theorem dX8_event_4 : decode cX8_event 4 = .ok (.iload_n 1, 1) := by decide +kernel
theorem dX8_event_5 : decode cX8_event 5 = .ok (.invokevirtual 47, 3) := by decide +kernel
theorem dX8_event_8 : decode cX8_event 8 = .ok (.astore 5, 2) := by decide +kernel
theorem dX8_event_10 : decode cX8_event 10 = .ok (.aload 5, 2) := by decide +kernel
theorem dX8_event_12 : decode cX8_event 12 = .ok (.ifnull 22, 3) := by decide +kernel
theorem dX8_event_15 : decode cX8_event 15 = .ok (.iload_n 2, 1) := by decide +kernel
theorem dX8_event_16 : decode cX8_event 16 = .ok (.sipush 3650, 3) := by decide +kernel
theorem dX8_event_19 : decode cX8_event 19 = .ok (.invokestatic 34, 3) := by decide +kernel
theorem dX8_event_22 : decode cX8_event 22 = .ok (.ifCond .eq 12, 3) := by decide +kernel
theorem dX8_event_25 : decode cX8_event 25 = .ok (.iload_n 3, 1) := by decide +kernel
theorem dX8_event_26 : decode cX8_event 26 = .ok (.iload 4, 2) := by decide +kernel
theorem dX8_event_28 : decode cX8_event 28 = .ok (.invokestatic 102, 3) := by decide +kernel
theorem dX8_event_31 : decode cX8_event 31 = .ok (.ifCond .ne 5, 3) := by decide +kernel
theorem dX8_event_34 : decode cX8_event 34 = .ok (.iconst (-1), 1) := by decide +kernel
theorem dX8_event_35 : decode cX8_event 35 = .ok (.ireturn, 1) := by decide +kernel
theorem dX8_event_36 : decode cX8_event 36 = .ok (.aload 5, 2) := by decide +kernel
theorem dX8_event_38 : decode cX8_event 38 = .ok (.getfield 105, 3) := by decide +kernel
theorem dX8_event_41 : decode cX8_event 41 = .ok (.invokevirtual 109, 3) := by decide +kernel
theorem dX8_event_44 : decode cX8_event 44 = .ok (.ifCond .eq 6, 3) := by decide +kernel
theorem dX8_event_47 : decode cX8_event 47 = .ok (.bipush (-3), 2) := by decide +kernel
theorem dX8_event_49 : decode cX8_event 49 = .ok (.ireturn, 1) := by decide +kernel
theorem dX8_event_50 : decode cX8_event 50 = .ok (.aload 5, 2) := by decide +kernel
theorem dX8_event_52 : decode cX8_event 52 = .ok (.getfield 105, 3) := by decide +kernel
theorem dX8_event_55 : decode cX8_event 55 = .ok (.iload_n 2, 1) := by decide +kernel
theorem dX8_event_56 : decode cX8_event 56 = .ok (.iload_n 3, 1) := by decide +kernel
theorem dX8_event_57 : decode cX8_event 57 = .ok (.iload 4, 2) := by decide +kernel
theorem dX8_event_59 : decode cX8_event 59 = .ok (.invokevirtual 112, 3) := by decide +kernel
theorem dX8_event_62 : decode cX8_event 62 = .ok (.aload 5, 2) := by decide +kernel
theorem dX8_event_64 : decode cX8_event 64 = .ok (.getfield 105, 3) := by decide +kernel
theorem dX8_event_67 : decode cX8_event 67 = .ok (.getfield 115, 3) := by decide +kernel
theorem dX8_event_70 : decode cX8_event 70 = .ok (.ireturn, 1) := by decide +kernel
set_option maxRecDepth 20000 in
theorem ggX8_appeal_X5_at : GoodIn wsX8_appeal wsX5_at := goodIn_r _ [6, 7, 62, 63] (by decide +kernel) (by decide +kernel)
set_option maxRecDepth 20000 in
theorem gX8_appeal_X5_at : GoodIn wsX8_appeal (wsV RX8 47 RX5 yX5_at wsX5_at) := goodIn_app (goodIn_of _ (by decide +kernel)) ggX8_appeal_X5_at
set_option maxRecDepth 20000 in
theorem ggX8_appeal_X8_isOf : GoodIn wsX8_appeal wsX8_isOf := goodIn_r _ [11] (by decide +kernel) (by decide +kernel)
set_option maxRecDepth 20000 in
theorem gX8_appeal_X8_isOf : GoodIn wsX8_appeal (va_wsS RX8 34 yX8_isOf wsX8_isOf) := goodIn_app (goodIn_of _ (by decide +kernel)) ggX8_appeal_X8_isOf
set_option maxRecDepth 20000 in
theorem ggX8_appeal_X8_isEvent : GoodIn wsX8_appeal wsX8_isEvent := goodIn_r _ [14, 15, 16, 10, 17] (by decide +kernel) (by decide +kernel)
set_option maxRecDepth 20000 in
theorem gX8_appeal_X8_isEvent : GoodIn wsX8_appeal (va_wsS RX8 102 yX8_isEvent wsX8_isEvent) := goodIn_app (goodIn_of _ (by decide +kernel)) ggX8_appeal_X8_isEvent
set_option maxRecDepth 20000 in
theorem ggX8_appeal_X8_cutLike : GoodIn wsX8_appeal wsX8_cutLike := goodIn_r _ [21, 1, 22, 2, 3, 4, 5, 6, 7, 23, 24, 25, 26, 27, 28, 29, 30, 31, 32, 33, 34, 35, 36, 37, 38, 39, 40, 41, 42, 43, 44, 45, 46, 47, 48, 49, 50, 51, 52, 53, 54, 58, 59, 60, 61, 62, 63, 64, 65, 66, 67, 68, 69, 70, 71, 72, 73, 74, 75, 76] (by decide +kernel) (by decide +kernel)
set_option maxRecDepth 20000 in
theorem gX8_appeal_X8_cutLike : GoodIn wsX8_appeal (wsV RX8 118 RX8 yX8_cutLike wsX8_cutLike) := goodIn_app (goodIn_of _ (by decide +kernel)) ggX8_appeal_X8_cutLike
set_option maxRecDepth 20000 in
theorem ggX8_appeal_X8_cutOne : GoodIn wsX8_appeal wsX8_cutOne := goodIn_r _ [57, 22, 30, 31, 32, 33, 34, 35, 36, 37, 38, 39, 40, 41, 42, 43, 44, 45, 46, 47, 48, 49, 50, 51, 52, 53, 54, 64, 65, 66, 67, 68, 69, 70, 71, 72, 73, 74, 75, 76] (by decide +kernel) (by decide +kernel)
set_option maxRecDepth 20000 in
theorem gX8_appeal_X8_cutOne : GoodIn wsX8_appeal (va_wsS RX8 122 yX8_cutOne wsX8_cutOne) := goodIn_app (goodIn_of _ (by decide +kernel)) ggX8_appeal_X8_cutOne
theorem dX8_appeal_0 : decode cX8_appeal 0 = .ok (.aload_n 0, 1) := by decide +kernel
theorem dX8_appeal_1 : decode cX8_appeal 1 = .ok (.getfield 12, 3) := by decide +kernel
theorem dX8_appeal_4 : decode cX8_appeal 4 = .ok (.iload_n 1, 1) := by decide +kernel
theorem dX8_appeal_5 : decode cX8_appeal 5 = .ok (.invokevirtual 47, 3) := by decide +kernel
theorem dX8_appeal_8 : decode cX8_appeal 8 = .ok (.astore 5, 2) := by decide +kernel
theorem dX8_appeal_10 : decode cX8_appeal 10 = .ok (.aload 5, 2) := by decide +kernel
theorem dX8_appeal_12 : decode cX8_appeal 12 = .ok (.ifnull 21, 3) := by decide +kernel
theorem dX8_appeal_15 : decode cX8_appeal 15 = .ok (.iload_n 2, 1) := by decide +kernel
theorem dX8_appeal_16 : decode cX8_appeal 16 = .ok (.sipush 3650, 3) := by decide +kernel
theorem dX8_appeal_19 : decode cX8_appeal 19 = .ok (.invokestatic 34, 3) := by decide +kernel
theorem dX8_appeal_22 : decode cX8_appeal 22 = .ok (.ifCond .eq 11, 3) := by decide +kernel
theorem dX8_appeal_25 : decode cX8_appeal 25 = .ok (.iconst 2, 1) := by decide +kernel
theorem dX8_appeal_26 : decode cX8_appeal 26 = .ok (.iload_n 3, 1) := by decide +kernel
theorem dX8_appeal_27 : decode cX8_appeal 27 = .ok (.invokestatic 102, 3) := by decide +kernel
theorem dX8_appeal_30 : decode cX8_appeal 30 = .ok (.ifCond .ne 5, 3) := by decide +kernel
theorem dX8_appeal_33 : decode cX8_appeal 33 = .ok (.iconst (-1), 1) := by decide +kernel
theorem dX8_appeal_34 : decode cX8_appeal 34 = .ok (.ireturn, 1) := by decide +kernel
theorem dX8_appeal_35 : decode cX8_appeal 35 = .ok (.iload 4, 2) := by decide +kernel
theorem dX8_appeal_37 : decode cX8_appeal 37 = .ok (.ifCond .eq 14, 3) := by decide +kernel
theorem dX8_appeal_40 : decode cX8_appeal 40 = .ok (.aload_n 0, 1) := by decide +kernel
theorem dX8_appeal_41 : decode cX8_appeal 41 = .ok (.aload 5, 2) := by decide +kernel
theorem dX8_appeal_43 : decode cX8_appeal 43 = .ok (.iload_n 2, 1) := by decide +kernel
theorem dX8_appeal_44 : decode cX8_appeal 44 = .ok (.iload_n 3, 1) := by decide +kernel
theorem dX8_appeal_45 : decode cX8_appeal 45 = .ok (.invokevirtual 118, 3) := by decide +kernel
theorem dX8_appeal_48 : decode cX8_appeal 48 = .ok (.goto 10, 3) := by decide +kernel
theorem dX8_appeal_51 : decode cX8_appeal 51 = .ok (.aload 5, 2) := by decide +kernel
theorem dX8_appeal_53 : decode cX8_appeal 53 = .ok (.iload_n 2, 1) := by decide +kernel
theorem dX8_appeal_54 : decode cX8_appeal 54 = .ok (.iload_n 3, 1) := by decide +kernel
theorem dX8_appeal_55 : decode cX8_appeal 55 = .ok (.invokestatic 122, 3) := by decide +kernel
theorem dX8_appeal_58 : decode cX8_appeal 58 = .ok (.ireturn, 1) := by decide +kernel
set_option maxRecDepth 20000 in
theorem ggX8_strike_X5_at : GoodIn wsX8_strike wsX5_at := goodIn_r _ [7, 8, 30, 31] (by decide +kernel) (by decide +kernel)
set_option maxRecDepth 20000 in
theorem gX8_strike_X5_at : GoodIn wsX8_strike (wsV RX8 47 RX5 yX5_at wsX5_at) := goodIn_app (goodIn_of _ (by decide +kernel)) ggX8_strike_X5_at
set_option maxRecDepth 20000 in
theorem ggX8_strike_X1_dropLatestTold : GoodIn wsX8_strike wsX1_dropLatestTold := goodIn_r _ [13, 14, 15, 16, 28, 29, 32, 33, 34, 35] (by decide +kernel) (by decide +kernel)
set_option maxRecDepth 20000 in
theorem gX8_strike_X1_dropLatestTold : GoodIn wsX8_strike (wsV RX8 125 RX1 yX1_dropLatestTold wsX1_dropLatestTold) := goodIn_app (goodIn_of _ (by decide +kernel)) ggX8_strike_X1_dropLatestTold
theorem dX8_strike_0 : decode cX8_strike 0 = .ok (.aload_n 0, 1) := by decide +kernel
theorem dX8_strike_1 : decode cX8_strike 1 = .ok (.getfield 12, 3) := by decide +kernel
theorem dX8_strike_4 : decode cX8_strike 4 = .ok (.iload_n 1, 1) := by decide +kernel
theorem dX8_strike_5 : decode cX8_strike 5 = .ok (.invokevirtual 47, 3) := by decide +kernel
theorem dX8_strike_8 : decode cX8_strike 8 = .ok (.astore_n 2, 1) := by decide +kernel
theorem dX8_strike_9 : decode cX8_strike 9 = .ok (.aload_n 2, 1) := by decide +kernel
theorem dX8_strike_10 : decode cX8_strike 10 = .ok (.ifnonnull 5, 3) := by decide +kernel
theorem dX8_strike_13 : decode cX8_strike 13 = .ok (.iconst (-1), 1) := by decide +kernel
theorem dX8_strike_14 : decode cX8_strike 14 = .ok (.ireturn, 1) := by decide +kernel
theorem dX8_strike_15 : decode cX8_strike 15 = .ok (.aload_n 2, 1) := by decide +kernel
theorem dX8_strike_16 : decode cX8_strike 16 = .ok (.getfield 105, 3) := by decide +kernel
theorem dX8_strike_19 : decode cX8_strike 19 = .ok (.getfield 115, 3) := by decide +kernel
theorem dX8_strike_22 : decode cX8_strike 22 = .ok (.ifCond .ne 6, 3) := by decide +kernel
theorem dX8_strike_25 : decode cX8_strike 25 = .ok (.bipush (-2), 2) := by decide +kernel
theorem dX8_strike_27 : decode cX8_strike 27 = .ok (.ireturn, 1) := by decide +kernel
theorem dX8_strike_28 : decode cX8_strike 28 = .ok (.aload_n 2, 1) := by decide +kernel
theorem dX8_strike_29 : decode cX8_strike 29 = .ok (.getfield 105, 3) := by decide +kernel
theorem dX8_strike_32 : decode cX8_strike 32 = .ok (.invokevirtual 125, 3) := by decide +kernel
theorem dX8_strike_35 : decode cX8_strike 35 = .ok (.aload_n 2, 1) := by decide +kernel
theorem dX8_strike_36 : decode cX8_strike 36 = .ok (.getfield 105, 3) := by decide +kernel
theorem dX8_strike_39 : decode cX8_strike 39 = .ok (.getfield 115, 3) := by decide +kernel
theorem dX8_strike_42 : decode cX8_strike 42 = .ok (.ireturn, 1) := by decide +kernel
set_option maxRecDepth 20000 in
theorem ggX8_on_X5_at : GoodIn wsX8_on wsX5_at := goodIn_r _ [7, 8, 85, 86] (by decide +kernel) (by decide +kernel)
set_option maxRecDepth 20000 in
theorem gX8_on_X5_at : GoodIn wsX8_on (wsV RX8 47 RX5 yX5_at wsX5_at) := goodIn_app (goodIn_of _ (by decide +kernel)) ggX8_on_X5_at
set_option maxRecDepth 20000 in
theorem ggX8_on_X8_isOf : GoodIn wsX8_on wsX8_isOf := goodIn_r _ [12] (by decide +kernel) (by decide +kernel)
set_option maxRecDepth 20000 in
theorem gX8_on_X8_isOf : GoodIn wsX8_on (va_wsS RX8 34 yX8_isOf wsX8_isOf) := goodIn_app (goodIn_of _ (by decide +kernel)) ggX8_on_X8_isOf
set_option maxRecDepth 20000 in
theorem ggX8_on_X2_sizeOn : GoodIn wsX8_on wsX2_sizeOn := goodIn_r _ [17, 18, 19, 20, 21, 22, 23, 24, 25, 26, 27, 28, 87, 88, 89, 90, 91, 92, 93, 94, 95, 96, 97, 98, 99] (by decide +kernel) (by decide +kernel)
set_option maxRecDepth 20000 in
theorem gX8_on_X2_sizeOn : GoodIn wsX8_on (wsV RX8 128 RX2 yX2_sizeOn wsX2_sizeOn) := goodIn_app (goodIn_of _ (by decide +kernel)) ggX8_on_X2_sizeOn
set_option maxRecDepth 20000 in
theorem ggX8_on_X2_useOn : GoodIn wsX8_on wsX2_useOn := goodIn_r _ [32, 18, 20, 21, 22, 23, 24, 25, 26, 27, 28, 87, 88, 89, 90, 91, 92, 93, 94, 95, 96, 97, 98, 99] (by decide +kernel) (by decide +kernel)
set_option maxRecDepth 20000 in
theorem gX8_on_X2_useOn : GoodIn wsX8_on (wsV RX8 132 RX2 yX2_useOn wsX2_useOn) := goodIn_app (goodIn_of _ (by decide +kernel)) ggX8_on_X2_useOn
set_option maxRecDepth 20000 in
theorem ggX8_on_X8_worthOn : GoodIn wsX8_on wsX8_worthOn := goodIn_r _ [36, 2, 37, 38, 39, 40, 41, 42, 43, 44, 45, 46, 47, 48, 49, 50, 51, 52, 53, 54, 55, 56, 57, 13, 14, 15, 16, 17, 18, 19, 20, 21, 22, 23, 24, 25, 26, 27, 28, 58, 59, 60, 61, 62, 63, 64, 65, 66, 67, 68, 69, 70, 81, 82, 83, 84, 87, 88, 89, 90, 91, 92, 93, 100, 101, 102, 103, 94, 95, 96, 97, 98, 99, 104, 105, 106, 107] (by decide +kernel) (by decide +kernel)
set_option maxRecDepth 20000 in
theorem gX8_on_X8_worthOn : GoodIn wsX8_on (wsV RX8 135 RX8 yX8_worthOn wsX8_worthOn) := goodIn_app (goodIn_of _ (by decide +kernel)) ggX8_on_X8_worthOn
set_option maxRecDepth 20000 in
theorem ggX8_on_X8_countedOn : GoodIn wsX8_on wsX8_countedOn := goodIn_r _ [74, 39, 75, 76, 33, 34, 35, 11, 36, 2, 37, 38, 40, 41, 42, 43, 44, 45, 46, 47, 48, 49, 50, 51, 52, 53, 54, 55, 56, 57, 13, 14, 15, 16, 17, 18, 19, 20, 21, 22, 23, 24, 25, 26, 27, 28, 58, 59, 60, 61, 62, 63, 64, 65, 66, 67, 68, 69, 70, 77, 87, 88, 89, 90, 91, 92, 93, 94, 95, 96, 97, 81, 82, 83, 84, 100, 101, 102, 103, 98, 99, 104, 105, 106, 107] (by decide +kernel) (by decide +kernel)
set_option maxRecDepth 20000 in
theorem gX8_on_X8_countedOn : GoodIn wsX8_on (wsV RX8 139 RX8 yX8_countedOn wsX8_countedOn) := goodIn_app (goodIn_of _ (by decide +kernel)) ggX8_on_X8_countedOn
set_option maxRecDepth 20000 in
theorem ggX8_on_X8_relieved : GoodIn wsX8_on wsX8_relieved := goodIn_r _ [80] (by decide +kernel) (by decide +kernel)
set_option maxRecDepth 20000 in
theorem gX8_on_X8_relieved : GoodIn wsX8_on (va_wsS RX8 142 yX8_relieved wsX8_relieved) := goodIn_app (goodIn_of _ (by decide +kernel)) ggX8_on_X8_relieved
set_option maxRecDepth 20000 in
theorem ggX8_on_X3_standingOn : GoodIn wsX8_on wsX3_standingOn := goodIn_r _ [45, 46, 47, 102, 103, 100, 101] (by decide +kernel) (by decide +kernel)
set_option maxRecDepth 20000 in
theorem gX8_on_X3_standingOn : GoodIn wsX8_on (wsV RX8 145 RX3 yX3_standingOn wsX3_standingOn) := goodIn_app (goodIn_of _ (by decide +kernel)) ggX8_on_X3_standingOn
theorem dX8_on_0 : decode cX8_on 0 = .ok (.aload_n 0, 1) := by decide +kernel
theorem dX8_on_1 : decode cX8_on 1 = .ok (.getfield 12, 3) := by decide +kernel
theorem dX8_on_4 : decode cX8_on 4 = .ok (.iload_n 1, 1) := by decide +kernel
theorem dX8_on_5 : decode cX8_on 5 = .ok (.invokevirtual 47, 3) := by decide +kernel
theorem dX8_on_8 : decode cX8_on 8 = .ok (.astore 4, 2) := by decide +kernel
theorem dX8_on_10 : decode cX8_on 10 = .ok (.aload 4, 2) := by decide +kernel
theorem dX8_on_12 : decode cX8_on 12 = .ok (.ifnull 13, 3) := by decide +kernel
theorem dX8_on_15 : decode cX8_on 15 = .ok (.iload_n 2, 1) := by decide +kernel
theorem dX8_on_16 : decode cX8_on 16 = .ok (.sipush 3650, 3) := by decide +kernel
theorem dX8_on_19 : decode cX8_on 19 = .ok (.invokestatic 34, 3) := by decide +kernel
theorem dX8_on_22 : decode cX8_on 22 = .ok (.ifCond .ne 5, 3) := by decide +kernel
theorem dX8_on_25 : decode cX8_on 25 = .ok (.iconst (-1), 1) := by decide +kernel
theorem dX8_on_26 : decode cX8_on 26 = .ok (.ireturn, 1) := by decide +kernel
theorem dX8_on_27 : decode cX8_on 27 = .ok (.iload_n 3, 1) := by decide +kernel
theorem dX8_on_28 : decode cX8_on 28 = .ok (.tableswitch 90 0 5 #[40, 47, 54, 62, 70, 81], 40) := by decide +kernel
theorem dX8_on_68 : decode cX8_on 68 = .ok (.aload 4, 2) := by decide +kernel
theorem dX8_on_70 : decode cX8_on 70 = .ok (.iload_n 2, 1) := by decide +kernel
theorem dX8_on_71 : decode cX8_on 71 = .ok (.invokevirtual 128, 3) := by decide +kernel
theorem dX8_on_74 : decode cX8_on 74 = .ok (.ireturn, 1) := by decide +kernel
theorem dX8_on_75 : decode cX8_on 75 = .ok (.aload 4, 2) := by decide +kernel
theorem dX8_on_77 : decode cX8_on 77 = .ok (.iload_n 2, 1) := by decide +kernel
theorem dX8_on_78 : decode cX8_on 78 = .ok (.invokevirtual 132, 3) := by decide +kernel
theorem dX8_on_81 : decode cX8_on 81 = .ok (.ireturn, 1) := by decide +kernel
theorem dX8_on_82 : decode cX8_on 82 = .ok (.aload_n 0, 1) := by decide +kernel
theorem dX8_on_83 : decode cX8_on 83 = .ok (.aload 4, 2) := by decide +kernel
theorem dX8_on_85 : decode cX8_on 85 = .ok (.iload_n 2, 1) := by decide +kernel
theorem dX8_on_86 : decode cX8_on 86 = .ok (.invokevirtual 135, 3) := by decide +kernel
theorem dX8_on_89 : decode cX8_on 89 = .ok (.ireturn, 1) := by decide +kernel
theorem dX8_on_90 : decode cX8_on 90 = .ok (.aload_n 0, 1) := by decide +kernel
theorem dX8_on_91 : decode cX8_on 91 = .ok (.aload 4, 2) := by decide +kernel
theorem dX8_on_93 : decode cX8_on 93 = .ok (.iload_n 2, 1) := by decide +kernel
theorem dX8_on_94 : decode cX8_on 94 = .ok (.invokevirtual 139, 3) := by decide +kernel
theorem dX8_on_97 : decode cX8_on 97 = .ok (.ireturn, 1) := by decide +kernel
theorem dX8_on_98 : decode cX8_on 98 = .ok (.aload_n 0, 1) := by decide +kernel
theorem dX8_on_99 : decode cX8_on 99 = .ok (.aload 4, 2) := by decide +kernel
theorem dX8_on_101 : decode cX8_on 101 = .ok (.iload_n 2, 1) := by decide +kernel
theorem dX8_on_102 : decode cX8_on 102 = .ok (.invokevirtual 139, 3) := by decide +kernel
theorem dX8_on_105 : decode cX8_on 105 = .ok (.invokestatic 142, 3) := by decide +kernel
theorem dX8_on_108 : decode cX8_on 108 = .ok (.ireturn, 1) := by decide +kernel
theorem dX8_on_109 : decode cX8_on 109 = .ok (.aload_n 0, 1) := by decide +kernel
theorem dX8_on_110 : decode cX8_on 110 = .ok (.getfield 19, 3) := by decide +kernel
theorem dX8_on_113 : decode cX8_on 113 = .ok (.iload_n 2, 1) := by decide +kernel
theorem dX8_on_114 : decode cX8_on 114 = .ok (.invokevirtual 145, 3) := by decide +kernel
theorem dX8_on_117 : decode cX8_on 117 = .ok (.ireturn, 1) := by decide +kernel
theorem dX8_on_118 : decode cX8_on 118 = .ok (.iconst (-1), 1) := by decide +kernel
theorem dX8_on_119 : decode cX8_on 119 = .ok (.ireturn, 1) := by decide +kernel
set_option maxRecDepth 20000 in
theorem ggX8_year_X5_at : GoodIn wsX8_year wsX5_at := goodIn_r _ [7, 8, 96, 97] (by decide +kernel) (by decide +kernel)
set_option maxRecDepth 20000 in
theorem gX8_year_X5_at : GoodIn wsX8_year (wsV RX8 47 RX5 yX5_at wsX5_at) := goodIn_app (goodIn_of _ (by decide +kernel)) ggX8_year_X5_at
set_option maxRecDepth 20000 in
theorem ggX8_year_X8_isOf : GoodIn wsX8_year wsX8_isOf := goodIn_r _ [12] (by decide +kernel) (by decide +kernel)
set_option maxRecDepth 20000 in
theorem gX8_year_X8_isOf : GoodIn wsX8_year (va_wsS RX8 34 yX8_isOf wsX8_isOf) := goodIn_app (goodIn_of _ (by decide +kernel)) ggX8_year_X8_isOf
set_option maxRecDepth 20000 in
theorem ggX8_year_X8_sumOfYear : GoodIn wsX8_year wsX8_sumOfYear := goodIn_r _ [16, 17, 18, 19, 20, 21, 22, 23, 24, 25, 26, 11, 27, 28, 29, 30, 31, 32, 33, 34, 35, 36, 37, 38, 39, 40, 41, 42, 43, 44, 45, 46, 47, 48, 49, 50, 51, 52, 53, 54, 55, 56, 57, 58, 59, 60, 61, 62, 63, 64, 65, 66, 67, 68, 69, 70, 71, 72, 73, 74, 75, 76, 77, 78, 79, 80, 81, 82, 83, 84, 85, 86, 87, 88, 89, 90, 91, 92, 93, 94, 95, 98, 99, 100, 101, 102, 103, 104, 105, 106, 107, 108, 109, 110, 111, 112, 113, 114, 115, 116, 117, 118] (by decide +kernel) (by decide +kernel)
set_option maxRecDepth 20000 in
theorem gX8_year_X8_sumOfYear : GoodIn wsX8_year (wsV RX8 150 RX8 yX8_sumOfYear wsX8_sumOfYear) := goodIn_app (goodIn_of _ (by decide +kernel)) ggX8_year_X8_sumOfYear
theorem dX8_year_0 : decode cX8_year 0 = .ok (.aload_n 0, 1) := by decide +kernel
theorem dX8_year_1 : decode cX8_year 1 = .ok (.getfield 12, 3) := by decide +kernel
theorem dX8_year_4 : decode cX8_year 4 = .ok (.iload_n 1, 1) := by decide +kernel
theorem dX8_year_5 : decode cX8_year 5 = .ok (.invokevirtual 47, 3) := by decide +kernel
theorem dX8_year_8 : decode cX8_year 8 = .ok (.astore_n 3, 1) := by decide +kernel
theorem dX8_year_9 : decode cX8_year 9 = .ok (.aload_n 3, 1) := by decide +kernel
theorem dX8_year_10 : decode cX8_year 10 = .ok (.ifnull 12, 3) := by decide +kernel
theorem dX8_year_13 : decode cX8_year 13 = .ok (.iload_n 2, 1) := by decide +kernel
theorem dX8_year_14 : decode cX8_year 14 = .ok (.bipush 10, 2) := by decide +kernel
theorem dX8_year_16 : decode cX8_year 16 = .ok (.invokestatic 34, 3) := by decide +kernel
theorem dX8_year_19 : decode cX8_year 19 = .ok (.ifCond .ne 9, 3) := by decide +kernel
theorem dX8_year_22 : decode cX8_year 22 = .ok (.ldc2_w 148, 3) := by decide +kernel
theorem dX8_year_25 : decode cX8_year 25 = .ok (.goto 9, 3) := by decide +kernel
theorem dX8_year_28 : decode cX8_year 28 = .ok (.aload_n 0, 1) := by decide +kernel
theorem dX8_year_29 : decode cX8_year 29 = .ok (.aload_n 3, 1) := by decide +kernel
theorem dX8_year_30 : decode cX8_year 30 = .ok (.iload_n 2, 1) := by decide +kernel
theorem dX8_year_31 : decode cX8_year 31 = .ok (.invokevirtual 150, 3) := by decide +kernel
theorem dX8_year_34 : decode cX8_year 34 = .ok (.lreturn, 1) := by decide +kernel
set_option maxRecDepth 20000 in
theorem ggX8_bill_X5_at : GoodIn wsX8_bill wsX5_at := goodIn_r _ [6, 7, 102, 103] (by decide +kernel) (by decide +kernel)
set_option maxRecDepth 20000 in
theorem gX8_bill_X5_at : GoodIn wsX8_bill (wsV RX8 47 RX5 yX5_at wsX5_at) := goodIn_app (goodIn_of _ (by decide +kernel)) ggX8_bill_X5_at
set_option maxRecDepth 20000 in
theorem ggX8_bill_X8_isOf : GoodIn wsX8_bill wsX8_isOf := goodIn_r _ [11] (by decide +kernel) (by decide +kernel)
set_option maxRecDepth 20000 in
theorem gX8_bill_X8_isOf : GoodIn wsX8_bill (va_wsS RX8 34 yX8_isOf wsX8_isOf) := goodIn_app (goodIn_of _ (by decide +kernel)) ggX8_bill_X8_isOf
set_option maxRecDepth 20000 in
theorem ggX8_bill_X8_isWithin : GoodIn wsX8_bill wsX8_isWithin := goodIn_r _ [14] (by decide +kernel) (by decide +kernel)
set_option maxRecDepth 20000 in
theorem gX8_bill_X8_isWithin : GoodIn wsX8_bill (va_wsS RX8 38 yX8_isWithin wsX8_isWithin) := goodIn_app (goodIn_of _ (by decide +kernel)) ggX8_bill_X8_isWithin
set_option maxRecDepth 20000 in
theorem ggX8_bill_X8_sumOfYear : GoodIn wsX8_bill wsX8_sumOfYear := goodIn_r _ [18, 19, 20, 21, 22, 23, 24, 25, 26, 27, 28, 10, 29, 30, 31, 32, 33, 34, 35, 36, 37, 38, 39, 40, 41, 42, 43, 44, 45, 46, 47, 48, 49, 50, 51, 52, 53, 54, 55, 56, 57, 58, 59, 60, 61, 62, 63, 64, 65, 66, 67, 68, 69, 70, 71, 72, 73, 74, 75, 76, 77, 78, 79, 80, 81, 82, 83, 84, 85, 86, 87, 88, 89, 90, 91, 92, 93, 98, 99, 100, 101, 104, 105, 106, 107, 108, 109, 110, 111, 112, 113, 114, 115, 116, 117, 118, 119, 120, 121, 122, 123, 124] (by decide +kernel) (by decide +kernel)
set_option maxRecDepth 20000 in
theorem gX8_bill_X8_sumOfYear : GoodIn wsX8_bill (wsV RX8 150 RX8 yX8_sumOfYear wsX8_sumOfYear) := goodIn_app (goodIn_of _ (by decide +kernel)) ggX8_bill_X8_sumOfYear
set_option maxRecDepth 20000 in
theorem ggX8_bill_X8_billFor : GoodIn wsX8_bill wsX8_billFor := goodIn_r _ [96, 97] (by decide +kernel) (by decide +kernel)
set_option maxRecDepth 20000 in
theorem gX8_bill_X8_billFor : GoodIn wsX8_bill (va_wsS RX8 154 yX8_billFor wsX8_billFor) := goodIn_app (goodIn_of _ (by decide +kernel)) ggX8_bill_X8_billFor
theorem dX8_bill_0 : decode cX8_bill 0 = .ok (.aload_n 0, 1) := by decide +kernel
theorem dX8_bill_1 : decode cX8_bill 1 = .ok (.getfield 12, 3) := by decide +kernel
theorem dX8_bill_4 : decode cX8_bill 4 = .ok (.iload_n 1, 1) := by decide +kernel
theorem dX8_bill_5 : decode cX8_bill 5 = .ok (.invokevirtual 47, 3) := by decide +kernel
theorem dX8_bill_8 : decode cX8_bill 8 = .ok (.astore 4, 2) := by decide +kernel
theorem dX8_bill_10 : decode cX8_bill 10 = .ok (.aload 4, 2) := by decide +kernel
theorem dX8_bill_12 : decode cX8_bill 12 = .ok (.ifnull 23, 3) := by decide +kernel
theorem dX8_bill_15 : decode cX8_bill 15 = .ok (.iload_n 2, 1) := by decide +kernel
theorem dX8_bill_16 : decode cX8_bill 16 = .ok (.bipush 10, 2) := by decide +kernel
theorem dX8_bill_18 : decode cX8_bill 18 = .ok (.invokestatic 34, 3) := by decide +kernel
theorem dX8_bill_21 : decode cX8_bill 21 = .ok (.ifCond .eq 14, 3) := by decide +kernel
theorem dX8_bill_24 : decode cX8_bill 24 = .ok (.iload_n 3, 1) := by decide +kernel
theorem dX8_bill_25 : decode cX8_bill 25 = .ok (.iconst 0, 1) := by decide +kernel
theorem dX8_bill_26 : decode cX8_bill 26 = .ok (.sipush 3000, 3) := by decide +kernel
theorem dX8_bill_29 : decode cX8_bill 29 = .ok (.invokestatic 38, 3) := by decide +kernel
theorem dX8_bill_32 : decode cX8_bill 32 = .ok (.ifCond .ne 5, 3) := by decide +kernel
theorem dX8_bill_35 : decode cX8_bill 35 = .ok (.iconst (-1), 1) := by decide +kernel
theorem dX8_bill_36 : decode cX8_bill 36 = .ok (.ireturn, 1) := by decide +kernel
theorem dX8_bill_37 : decode cX8_bill 37 = .ok (.aload_n 0, 1) := by decide +kernel
theorem dX8_bill_38 : decode cX8_bill 38 = .ok (.aload 4, 2) := by decide +kernel
theorem dX8_bill_40 : decode cX8_bill 40 = .ok (.iload_n 2, 1) := by decide +kernel
theorem dX8_bill_41 : decode cX8_bill 41 = .ok (.invokevirtual 150, 3) := by decide +kernel
theorem dX8_bill_44 : decode cX8_bill 44 = .ok (.iload_n 3, 1) := by decide +kernel
theorem dX8_bill_45 : decode cX8_bill 45 = .ok (.invokestatic 154, 3) := by decide +kernel
theorem dX8_bill_48 : decode cX8_bill 48 = .ok (.ireturn, 1) := by decide +kernel
set_option maxRecDepth 20000 in
theorem ggX8_poundage_X8_isOf : GoodIn wsX8_poundage wsX8_isOf := goodIn_r _ [5] (by decide +kernel) (by decide +kernel)
set_option maxRecDepth 20000 in
theorem gX8_poundage_X8_isOf : GoodIn wsX8_poundage (va_wsS RX8 34 yX8_isOf wsX8_isOf) := goodIn_app (goodIn_of _ (by decide +kernel)) ggX8_poundage_X8_isOf
set_option maxRecDepth 20000 in
theorem ggX8_poundage_X8_isWithin : GoodIn wsX8_poundage wsX8_isWithin := goodIn_r _ [8] (by decide +kernel) (by decide +kernel)
set_option maxRecDepth 20000 in
theorem gX8_poundage_X8_isWithin : GoodIn wsX8_poundage (va_wsS RX8 38 yX8_isWithin wsX8_isWithin) := goodIn_app (goodIn_of _ (by decide +kernel)) ggX8_poundage_X8_isWithin
set_option maxRecDepth 20000 in
theorem ggX8_poundage_X8_readYearSums : GoodIn wsX8_poundage wsX8_readYearSums := goodIn_r _ [12, 13, 14, 15, 16, 17, 18, 19, 20, 21, 22, 23, 4, 24, 25, 26, 27, 28, 29, 30, 31, 32, 33, 34, 35, 36, 37, 38, 39, 40, 41, 42, 43, 44, 45, 46, 47, 48, 49, 50, 51, 52, 53, 54, 55, 56, 57, 58, 59, 60, 61, 62, 63, 64, 65, 66, 67, 68, 69, 70, 71, 72, 73, 74, 75, 76, 77, 78, 79, 80, 81, 82, 83, 84, 85, 86, 87, 88, 89, 90, 91, 92, 93, 94, 95, 96, 97, 98, 99, 112, 113, 114, 115, 116, 117, 118, 119, 120, 121, 122, 123, 124, 125, 126, 127, 128, 129, 130, 131, 132, 133, 134, 135, 136, 137, 138] (by decide +kernel) (by decide +kernel)
set_option maxRecDepth 20000 in
theorem gX8_poundage_X8_readYearSums : GoodIn wsX8_poundage (wsV RX8 159 RX8 yX8_readYearSums wsX8_readYearSums) := goodIn_app (goodIn_of _ (by decide +kernel)) ggX8_poundage_X8_readYearSums
set_option maxRecDepth 20000 in
theorem ggX8_poundage_X8_leastPoundage : GoodIn wsX8_poundage wsX8_leastPoundage := goodIn_r _ [103, 104, 105, 106, 4, 107, 13, 108, 109, 110, 111, 112, 113, 114, 115] (by decide +kernel) (by decide +kernel)
set_option maxRecDepth 20000 in
theorem gX8_poundage_X8_leastPoundage : GoodIn wsX8_poundage (wsV RX8 163 RX8 yX8_leastPoundage wsX8_leastPoundage) := goodIn_app (goodIn_of _ (by decide +kernel)) ggX8_poundage_X8_leastPoundage
theorem dX8_poundage_0 : decode cX8_poundage 0 = .ok (.iload_n 1, 1) := by decide +kernel
theorem dX8_poundage_1 : decode cX8_poundage 1 = .ok (.bipush 10, 2) := by decide +kernel
theorem dX8_poundage_3 : decode cX8_poundage 3 = .ok (.invokestatic 34, 3) := by decide +kernel
theorem dX8_poundage_6 : decode cX8_poundage 6 = .ok (.ifCond .eq 13, 3) := by decide +kernel
theorem dX8_poundage_9 : decode cX8_poundage 9 = .ok (.iload_n 2, 1) := by decide +kernel
theorem dX8_poundage_10 : decode cX8_poundage 10 = .ok (.iconst 0, 1) := by decide +kernel
theorem dX8_poundage_11 : decode cX8_poundage 11 = .ok (.ldc 158, 2) := by decide +kernel
theorem dX8_poundage_13 : decode cX8_poundage 13 = .ok (.invokestatic 38, 3) := by decide +kernel
theorem dX8_poundage_16 : decode cX8_poundage 16 = .ok (.ifCond .ne 5, 3) := by decide +kernel
theorem dX8_poundage_19 : decode cX8_poundage 19 = .ok (.iconst (-1), 1) := by decide +kernel
theorem dX8_poundage_20 : decode cX8_poundage 20 = .ok (.ireturn, 1) := by decide +kernel
theorem dX8_poundage_21 : decode cX8_poundage 21 = .ok (.aload_n 0, 1) := by decide +kernel
theorem dX8_poundage_22 : decode cX8_poundage 22 = .ok (.iload_n 1, 1) := by decide +kernel
theorem dX8_poundage_23 : decode cX8_poundage 23 = .ok (.invokevirtual 159, 3) := by decide +kernel
theorem dX8_poundage_26 : decode cX8_poundage 26 = .ok (.aload_n 0, 1) := by decide +kernel
theorem dX8_poundage_27 : decode cX8_poundage 27 = .ok (.iload_n 2, 1) := by decide +kernel
theorem dX8_poundage_28 : decode cX8_poundage 28 = .ok (.invokevirtual 163, 3) := by decide +kernel
theorem dX8_poundage_31 : decode cX8_poundage 31 = .ok (.ireturn, 1) := by decide +kernel
set_option maxRecDepth 20000 in
theorem ggX8_struck_X8_bookOf : GoodIn wsX8_struck wsX8_bookOf := goodIn_r _ [11, 12, 128, 129, 130, 131] (by decide +kernel) (by decide +kernel)
set_option maxRecDepth 20000 in
theorem gX8_struck_X8_bookOf : GoodIn wsX8_struck (wsV RX8 166 RX8 yX8_bookOf wsX8_bookOf) := goodIn_app (goodIn_of _ (by decide +kernel)) ggX8_struck_X8_bookOf
set_option maxRecDepth 20000 in
theorem ggX8_struck_X8_isWithin : GoodIn wsX8_struck wsX8_isWithin := goodIn_r _ [15] (by decide +kernel) (by decide +kernel)
set_option maxRecDepth 20000 in
theorem gX8_struck_X8_isWithin : GoodIn wsX8_struck (va_wsS RX8 38 yX8_isWithin wsX8_isWithin) := goodIn_app (goodIn_of _ (by decide +kernel)) ggX8_struck_X8_isWithin
set_option maxRecDepth 20000 in
theorem ggX8_struck_X8_readYearSums : GoodIn wsX8_struck wsX8_readYearSums := goodIn_r _ [19, 6, 5, 20, 21, 22, 23, 24, 25, 26, 27, 28, 10, 29, 30, 31, 32, 33, 34, 35, 36, 37, 38, 39, 40, 41, 42, 43, 44, 45, 46, 47, 48, 49, 50, 51, 52, 53, 54, 55, 56, 57, 58, 59, 60, 61, 62, 63, 64, 65, 66, 67, 68, 69, 70, 71, 72, 73, 74, 75, 76, 77, 78, 79, 80, 81, 82, 83, 84, 85, 86, 87, 88, 89, 90, 91, 92, 93, 94, 95, 96, 97, 98, 99, 100, 101, 102, 103, 104, 128, 129, 130, 131, 132, 133, 134, 135, 136, 137, 138, 139, 140, 141, 142, 143, 144, 145, 146, 147, 148, 149, 150, 151, 152, 153, 154] (by decide +kernel) (by decide +kernel)
set_option maxRecDepth 20000 in
theorem gX8_struck_X8_readYearSums : GoodIn wsX8_struck (wsV RX8 159 RX8 yX8_readYearSums wsX8_readYearSums) := goodIn_app (goodIn_of _ (by decide +kernel)) ggX8_struck_X8_readYearSums
set_option maxRecDepth 20000 in
theorem ggX8_struck_X8_leastPoundage : GoodIn wsX8_struck wsX8_leastPoundage := goodIn_r _ [108, 109, 110, 111, 10, 112, 6, 113, 114, 115, 116, 128, 129, 130, 131] (by decide +kernel) (by decide +kernel)
set_option maxRecDepth 20000 in
theorem gX8_struck_X8_leastPoundage : GoodIn wsX8_struck (wsV RX8 163 RX8 yX8_leastPoundage wsX8_leastPoundage) := goodIn_app (goodIn_of _ (by decide +kernel)) ggX8_struck_X8_leastPoundage
set_option maxRecDepth 20000 in
theorem ggX8_struck_X8_billFor : GoodIn wsX8_struck wsX8_billFor := goodIn_r _ [115, 116] (by decide +kernel) (by decide +kernel)
set_option maxRecDepth 20000 in
theorem gX8_struck_X8_billFor : GoodIn wsX8_struck (va_wsS RX8 154 yX8_billFor wsX8_billFor) := goodIn_app (goodIn_of _ (by decide +kernel)) ggX8_struck_X8_billFor
set_option maxRecDepth 20000 in
theorem ggX8_struck_X7_putBilled : GoodIn wsX8_struck wsX7_putBilled := goodIn_r _ [121, 122, 123, 124, 125, 126, 127] (by decide +kernel) (by decide +kernel)
set_option maxRecDepth 20000 in
theorem gX8_struck_X7_putBilled : GoodIn wsX8_struck (wsV RX8 181 RX7 yX7_putBilled wsX7_putBilled) := goodIn_app (goodIn_of _ (by decide +kernel)) ggX8_struck_X7_putBilled
theorem dX8_struck_0 : decode cX8_struck 0 = .ok (.aload_n 0, 1) := by decide +kernel
theorem dX8_struck_1 : decode cX8_struck 1 = .ok (.iload_n 1, 1) := by decide +kernel
theorem dX8_struck_2 : decode cX8_struck 2 = .ok (.invokevirtual 166, 3) := by decide +kernel
theorem dX8_struck_5 : decode cX8_struck 5 = .ok (.astore_n 3, 1) := by decide +kernel
theorem dX8_struck_6 : decode cX8_struck 6 = .ok (.aload_n 3, 1) := by decide +kernel
theorem dX8_struck_7 : decode cX8_struck 7 = .ok (.ifnull 13, 3) := by decide +kernel
theorem dX8_struck_10 : decode cX8_struck 10 = .ok (.iload_n 2, 1) := by decide +kernel
theorem dX8_struck_11 : decode cX8_struck 11 = .ok (.iconst 0, 1) := by decide +kernel
theorem dX8_struck_12 : decode cX8_struck 12 = .ok (.ldc 158, 2) := by decide +kernel
theorem dX8_struck_14 : decode cX8_struck 14 = .ok (.invokestatic 38, 3) := by decide +kernel
theorem dX8_struck_17 : decode cX8_struck 17 = .ok (.ifCond .ne 5, 3) := by decide +kernel
theorem dX8_struck_20 : decode cX8_struck 20 = .ok (.iconst (-1), 1) := by decide +kernel
theorem dX8_struck_21 : decode cX8_struck 21 = .ok (.ireturn, 1) := by decide +kernel
theorem dX8_struck_22 : decode cX8_struck 22 = .ok (.aload_n 0, 1) := by decide +kernel
theorem dX8_struck_23 : decode cX8_struck 23 = .ok (.iload_n 1, 1) := by decide +kernel
theorem dX8_struck_24 : decode cX8_struck 24 = .ok (.invokevirtual 159, 3) := by decide +kernel
theorem dX8_struck_27 : decode cX8_struck 27 = .ok (.aload_n 0, 1) := by decide +kernel
theorem dX8_struck_28 : decode cX8_struck 28 = .ok (.iload_n 2, 1) := by decide +kernel
theorem dX8_struck_29 : decode cX8_struck 29 = .ok (.invokevirtual 163, 3) := by decide +kernel
theorem dX8_struck_32 : decode cX8_struck 32 = .ok (.istore 4, 2) := by decide +kernel
theorem dX8_struck_34 : decode cX8_struck 34 = .ok (.iload 4, 2) := by decide +kernel
theorem dX8_struck_36 : decode cX8_struck 36 = .ok (.bipush (-4), 2) := by decide +kernel
theorem dX8_struck_38 : decode cX8_struck 38 = .ok (.if_icmp .ne 6, 3) := by decide +kernel
theorem dX8_struck_41 : decode cX8_struck 41 = .ok (.bipush (-2), 2) := by decide +kernel
theorem dX8_struck_43 : decode cX8_struck 43 = .ok (.ireturn, 1) := by decide +kernel
theorem dX8_struck_44 : decode cX8_struck 44 = .ok (.aload_n 3, 1) := by decide +kernel
theorem dX8_struck_45 : decode cX8_struck 45 = .ok (.iconst 1, 1) := by decide +kernel
theorem dX8_struck_46 : decode cX8_struck 46 = .ok (.putfield 170, 3) := by decide +kernel
theorem dX8_struck_49 : decode cX8_struck 49 = .ok (.aload_n 3, 1) := by decide +kernel
theorem dX8_struck_50 : decode cX8_struck 50 = .ok (.iload_n 2, 1) := by decide +kernel
theorem dX8_struck_51 : decode cX8_struck 51 = .ok (.putfield 174, 3) := by decide +kernel
theorem dX8_struck_54 : decode cX8_struck 54 = .ok (.aload_n 3, 1) := by decide +kernel
theorem dX8_struck_55 : decode cX8_struck 55 = .ok (.iload 4, 2) := by decide +kernel
theorem dX8_struck_57 : decode cX8_struck 57 = .ok (.putfield 177, 3) := by decide +kernel
theorem dX8_struck_60 : decode cX8_struck 60 = .ok (.iconst 0, 1) := by decide +kernel
theorem dX8_struck_61 : decode cX8_struck 61 = .ok (.istore 5, 2) := by decide +kernel
theorem dX8_struck_63 : decode cX8_struck 63 = .ok (.iload 5, 2) := by decide +kernel
theorem dX8_struck_65 : decode cX8_struck 65 = .ok (.aload_n 0, 1) := by decide +kernel
theorem dX8_struck_66 : decode cX8_struck 66 = .ok (.getfield 12, 3) := by decide +kernel
theorem dX8_struck_69 : decode cX8_struck 69 = .ok (.getfield 180, 3) := by decide +kernel
theorem dX8_struck_72 : decode cX8_struck 72 = .ok (.if_icmp .ge 37, 3) := by decide +kernel
theorem dX8_struck_75 : decode cX8_struck 75 = .ok (.iload 5, 2) := by decide +kernel
theorem dX8_struck_77 : decode cX8_struck 77 = .ok (.aload_n 0, 1) := by decide +kernel
theorem dX8_struck_78 : decode cX8_struck 78 = .ok (.getfield 23, 3) := by decide +kernel
theorem dX8_struck_81 : decode cX8_struck 81 = .ok (.arraylength, 1) := by decide +kernel
theorem dX8_struck_82 : decode cX8_struck 82 = .ok (.if_icmp .ge 27, 3) := by decide +kernel
theorem dX8_struck_85 : decode cX8_struck 85 = .ok (.aload_n 3, 1) := by decide +kernel
theorem dX8_struck_86 : decode cX8_struck 86 = .ok (.iload 5, 2) := by decide +kernel
theorem dX8_struck_88 : decode cX8_struck 88 = .ok (.aload_n 0, 1) := by decide +kernel
theorem dX8_struck_89 : decode cX8_struck 89 = .ok (.getfield 23, 3) := by decide +kernel
theorem dX8_struck_92 : decode cX8_struck 92 = .ok (.iload 5, 2) := by decide +kernel
theorem dX8_struck_94 : decode cX8_struck 94 = .ok (.laload, 1) := by decide +kernel
theorem dX8_struck_95 : decode cX8_struck 95 = .ok (.iload 4, 2) := by decide +kernel
theorem dX8_struck_97 : decode cX8_struck 97 = .ok (.invokestatic 154, 3) := by decide +kernel
theorem dX8_struck_100 : decode cX8_struck 100 = .ok (.invokevirtual 181, 3) := by decide +kernel
theorem dX8_struck_103 : decode cX8_struck 103 = .ok (.iinc 5 1, 3) := by decide +kernel
theorem dX8_struck_106 : decode cX8_struck 106 = .ok (.goto (-43), 3) := by decide +kernel
theorem dX8_struck_109 : decode cX8_struck 109 = .ok (.iload 4, 2) := by decide +kernel
theorem dX8_struck_111 : decode cX8_struck 111 = .ok (.ireturn, 1) := by decide +kernel
end
section
set_option maxRecDepth 20000 in
theorem ggX8_pay_X8_bookOf : GoodIn wsX8_pay wsX8_bookOf := goodIn_r _ [7, 8, 28, 29, 30, 31] (by decide +kernel) (by decide +kernel)
set_option maxRecDepth 20000 in
theorem gX8_pay_X8_bookOf : GoodIn wsX8_pay (wsV RX8 166 RX8 yX8_bookOf wsX8_bookOf) := goodIn_app (goodIn_of _ (by decide +kernel)) ggX8_pay_X8_bookOf
set_option maxRecDepth 20000 in
theorem ggX8_pay_X5_at : GoodIn wsX8_pay wsX5_at := goodIn_r _ [13, 14, 32, 33] (by decide +kernel) (by decide +kernel)
set_option maxRecDepth 20000 in
theorem gX8_pay_X5_at : GoodIn wsX8_pay (wsV RX8 47 RX5 yX5_at wsX5_at) := goodIn_app (goodIn_of _ (by decide +kernel)) ggX8_pay_X5_at
set_option maxRecDepth 20000 in
theorem ggX8_pay_X8_isWithin : GoodIn wsX8_pay wsX8_isWithin := goodIn_r _ [17] (by decide +kernel) (by decide +kernel)
set_option maxRecDepth 20000 in
theorem gX8_pay_X8_isWithin : GoodIn wsX8_pay (va_wsS RX8 38 yX8_isWithin wsX8_isWithin) := goodIn_app (goodIn_of _ (by decide +kernel)) ggX8_pay_X8_isWithin
set_option maxRecDepth 20000 in
theorem ggX8_pay_X7_paidBy : GoodIn wsX8_pay wsX7_paidBy := goodIn_r _ [22, 23, 34, 35, 36, 37, 38] (by decide +kernel) (by decide +kernel)
set_option maxRecDepth 20000 in
theorem gX8_pay_X7_paidBy : GoodIn wsX8_pay (wsV RX8 186 RX7 yX7_paidBy wsX7_paidBy) := goodIn_app (goodIn_of _ (by decide +kernel)) ggX8_pay_X7_paidBy
set_option maxRecDepth 20000 in
theorem ggX8_pay_X7_putPaid : GoodIn wsX8_pay wsX7_putPaid := goodIn_r _ [27, 23, 34, 35, 36, 37, 38] (by decide +kernel) (by decide +kernel)
set_option maxRecDepth 20000 in
theorem gX8_pay_X7_putPaid : GoodIn wsX8_pay (wsV RX8 189 RX7 yX7_putPaid wsX7_putPaid) := goodIn_app (goodIn_of _ (by decide +kernel)) ggX8_pay_X7_putPaid
theorem dX8_pay_0 : decode cX8_pay 0 = .ok (.aload_n 0, 1) := by decide +kernel
theorem dX8_pay_1 : decode cX8_pay 1 = .ok (.iload_n 2, 1) := by decide +kernel
theorem dX8_pay_2 : decode cX8_pay 2 = .ok (.invokevirtual 166, 3) := by decide +kernel
theorem dX8_pay_5 : decode cX8_pay 5 = .ok (.astore 4, 2) := by decide +kernel
theorem dX8_pay_7 : decode cX8_pay 7 = .ok (.aload_n 0, 1) := by decide +kernel
theorem dX8_pay_8 : decode cX8_pay 8 = .ok (.getfield 12, 3) := by decide +kernel
theorem dX8_pay_11 : decode cX8_pay 11 = .ok (.iload_n 1, 1) := by decide +kernel
theorem dX8_pay_12 : decode cX8_pay 12 = .ok (.invokevirtual 47, 3) := by decide +kernel
theorem dX8_pay_15 : decode cX8_pay 15 = .ok (.ifnull 18, 3) := by decide +kernel
theorem dX8_pay_18 : decode cX8_pay 18 = .ok (.aload 4, 2) := by decide +kernel
theorem dX8_pay_20 : decode cX8_pay 20 = .ok (.ifnull 13, 3) := by decide +kernel
theorem dX8_pay_23 : decode cX8_pay 23 = .ok (.iload_n 3, 1) := by decide +kernel
theorem dX8_pay_24 : decode cX8_pay 24 = .ok (.iconst 1, 1) := by decide +kernel
theorem dX8_pay_25 : decode cX8_pay 25 = .ok (.ldc 185, 2) := by decide +kernel
theorem dX8_pay_27 : decode cX8_pay 27 = .ok (.invokestatic 38, 3) := by decide +kernel
theorem dX8_pay_30 : decode cX8_pay 30 = .ok (.ifCond .ne 5, 3) := by decide +kernel
theorem dX8_pay_33 : decode cX8_pay 33 = .ok (.iconst (-1), 1) := by decide +kernel
theorem dX8_pay_34 : decode cX8_pay 34 = .ok (.ireturn, 1) := by decide +kernel
theorem dX8_pay_35 : decode cX8_pay 35 = .ok (.aload 4, 2) := by decide +kernel
theorem dX8_pay_37 : decode cX8_pay 37 = .ok (.iload_n 1, 1) := by decide +kernel
theorem dX8_pay_38 : decode cX8_pay 38 = .ok (.invokevirtual 186, 3) := by decide +kernel
theorem dX8_pay_41 : decode cX8_pay 41 = .ok (.iload_n 3, 1) := by decide +kernel
theorem dX8_pay_42 : decode cX8_pay 42 = .ok (.iadd, 1) := by decide +kernel
theorem dX8_pay_43 : decode cX8_pay 43 = .ok (.istore 5, 2) := by decide +kernel
theorem dX8_pay_45 : decode cX8_pay 45 = .ok (.iload 5, 2) := by decide +kernel
theorem dX8_pay_47 : decode cX8_pay 47 = .ok (.ldc 185, 2) := by decide +kernel
theorem dX8_pay_49 : decode cX8_pay 49 = .ok (.if_icmp .le 6, 3) := by decide +kernel
theorem dX8_pay_52 : decode cX8_pay 52 = .ok (.bipush (-3), 2) := by decide +kernel
theorem dX8_pay_54 : decode cX8_pay 54 = .ok (.ireturn, 1) := by decide +kernel
theorem dX8_pay_55 : decode cX8_pay 55 = .ok (.aload 4, 2) := by decide +kernel
theorem dX8_pay_57 : decode cX8_pay 57 = .ok (.iload_n 1, 1) := by decide +kernel
theorem dX8_pay_58 : decode cX8_pay 58 = .ok (.iload 5, 2) := by decide +kernel
theorem dX8_pay_60 : decode cX8_pay 60 = .ok (.invokevirtual 189, 3) := by decide +kernel
theorem dX8_pay_63 : decode cX8_pay 63 = .ok (.iload 5, 2) := by decide +kernel
theorem dX8_pay_65 : decode cX8_pay 65 = .ok (.ireturn, 1) := by decide +kernel
set_option maxRecDepth 20000 in
theorem ggX8_paid_X8_bookOf : GoodIn wsX8_paid wsX8_bookOf := goodIn_r _ [6, 7, 28, 29, 30, 31] (by decide +kernel) (by decide +kernel)
set_option maxRecDepth 20000 in
theorem gX8_paid_X8_bookOf : GoodIn wsX8_paid (wsV RX8 166 RX8 yX8_bookOf wsX8_bookOf) := goodIn_app (goodIn_of _ (by decide +kernel)) ggX8_paid_X8_bookOf
set_option maxRecDepth 20000 in
theorem ggX8_paid_X5_at : GoodIn wsX8_paid wsX5_at := goodIn_r _ [12, 13, 32, 33] (by decide +kernel) (by decide +kernel)
set_option maxRecDepth 20000 in
theorem gX8_paid_X5_at : GoodIn wsX8_paid (wsV RX8 47 RX5 yX5_at wsX5_at) := goodIn_app (goodIn_of _ (by decide +kernel)) ggX8_paid_X5_at
set_option maxRecDepth 20000 in
theorem ggX8_paid_X8_isOf : GoodIn wsX8_paid wsX8_isOf := goodIn_r _ [16] (by decide +kernel) (by decide +kernel)
set_option maxRecDepth 20000 in
theorem gX8_paid_X8_isOf : GoodIn wsX8_paid (va_wsS RX8 34 yX8_isOf wsX8_isOf) := goodIn_app (goodIn_of _ (by decide +kernel)) ggX8_paid_X8_isOf
set_option maxRecDepth 20000 in
theorem ggX8_paid_X7_billedTo : GoodIn wsX8_paid wsX7_billedTo := goodIn_r _ [21, 22, 34, 35, 36, 37, 38] (by decide +kernel) (by decide +kernel)
set_option maxRecDepth 20000 in
theorem gX8_paid_X7_billedTo : GoodIn wsX8_paid (wsV RX8 192 RX7 yX7_billedTo wsX7_billedTo) := goodIn_app (goodIn_of _ (by decide +kernel)) ggX8_paid_X7_billedTo
set_option maxRecDepth 20000 in
theorem ggX8_paid_X7_paidBy : GoodIn wsX8_paid wsX7_paidBy := goodIn_r _ [26, 27, 34, 35, 36, 37, 38] (by decide +kernel) (by decide +kernel)
set_option maxRecDepth 20000 in
theorem gX8_paid_X7_paidBy : GoodIn wsX8_paid (wsV RX8 186 RX7 yX7_paidBy wsX7_paidBy) := goodIn_app (goodIn_of _ (by decide +kernel)) ggX8_paid_X7_paidBy
theorem dX8_paid_0 : decode cX8_paid 0 = .ok (.aload_n 0, 1) := by decide +kernel
theorem dX8_paid_1 : decode cX8_paid 1 = .ok (.iload_n 2, 1) := by decide +kernel
theorem dX8_paid_2 : decode cX8_paid 2 = .ok (.invokevirtual 166, 3) := by decide +kernel
theorem dX8_paid_5 : decode cX8_paid 5 = .ok (.astore 4, 2) := by decide +kernel
theorem dX8_paid_7 : decode cX8_paid 7 = .ok (.aload_n 0, 1) := by decide +kernel
theorem dX8_paid_8 : decode cX8_paid 8 = .ok (.getfield 12, 3) := by decide +kernel
theorem dX8_paid_11 : decode cX8_paid 11 = .ok (.iload_n 1, 1) := by decide +kernel
theorem dX8_paid_12 : decode cX8_paid 12 = .ok (.invokevirtual 47, 3) := by decide +kernel
theorem dX8_paid_15 : decode cX8_paid 15 = .ok (.ifnull 16, 3) := by decide +kernel
theorem dX8_paid_18 : decode cX8_paid 18 = .ok (.aload 4, 2) := by decide +kernel
theorem dX8_paid_20 : decode cX8_paid 20 = .ok (.ifnull 11, 3) := by decide +kernel
theorem dX8_paid_23 : decode cX8_paid 23 = .ok (.iload_n 3, 1) := by decide +kernel
theorem dX8_paid_24 : decode cX8_paid 24 = .ok (.iconst 2, 1) := by decide +kernel
theorem dX8_paid_25 : decode cX8_paid 25 = .ok (.invokestatic 34, 3) := by decide +kernel
theorem dX8_paid_28 : decode cX8_paid 28 = .ok (.ifCond .ne 5, 3) := by decide +kernel
theorem dX8_paid_31 : decode cX8_paid 31 = .ok (.iconst (-1), 1) := by decide +kernel
theorem dX8_paid_32 : decode cX8_paid 32 = .ok (.ireturn, 1) := by decide +kernel
theorem dX8_paid_33 : decode cX8_paid 33 = .ok (.iload_n 3, 1) := by decide +kernel
theorem dX8_paid_34 : decode cX8_paid 34 = .ok (.ifCond .ne 12, 3) := by decide +kernel
theorem dX8_paid_37 : decode cX8_paid 37 = .ok (.aload 4, 2) := by decide +kernel
theorem dX8_paid_39 : decode cX8_paid 39 = .ok (.iload_n 1, 1) := by decide +kernel
theorem dX8_paid_40 : decode cX8_paid 40 = .ok (.invokevirtual 192, 3) := by decide +kernel
theorem dX8_paid_43 : decode cX8_paid 43 = .ok (.goto 9, 3) := by decide +kernel
theorem dX8_paid_46 : decode cX8_paid 46 = .ok (.aload 4, 2) := by decide +kernel
theorem dX8_paid_48 : decode cX8_paid 48 = .ok (.iload_n 1, 1) := by decide +kernel
theorem dX8_paid_49 : decode cX8_paid 49 = .ok (.invokevirtual 186, 3) := by decide +kernel
theorem dX8_paid_52 : decode cX8_paid 52 = .ok (.ireturn, 1) := by decide +kernel
set_option maxRecDepth 20000 in
theorem ggX8_owed_X5_at : GoodIn wsX8_owed wsX5_at := goodIn_r _ [10, 11, 40, 41] (by decide +kernel) (by decide +kernel)
set_option maxRecDepth 20000 in
theorem gX8_owed_X5_at : GoodIn wsX8_owed (wsV RX8 47 RX5 yX5_at wsX5_at) := goodIn_app (goodIn_of _ (by decide +kernel)) ggX8_owed_X5_at
set_option maxRecDepth 20000 in
theorem ggX8_owed_X8_isOf : GoodIn wsX8_owed wsX8_isOf := goodIn_r _ [15] (by decide +kernel) (by decide +kernel)
set_option maxRecDepth 20000 in
theorem gX8_owed_X8_isOf : GoodIn wsX8_owed (va_wsS RX8 34 yX8_isOf wsX8_isOf) := goodIn_app (goodIn_of _ (by decide +kernel)) ggX8_owed_X8_isOf
set_option maxRecDepth 20000 in
theorem ggX8_owed_X8_openOf : GoodIn wsX8_owed wsX8_openOf := goodIn_r _ [19, 20, 21, 22, 14, 23, 24, 25, 26, 27, 28, 29, 30, 31, 32, 33, 34, 35, 36, 37, 38, 39, 42, 43, 44, 45, 46] (by decide +kernel) (by decide +kernel)
set_option maxRecDepth 20000 in
theorem gX8_owed_X8_openOf : GoodIn wsX8_owed (wsV RX8 195 RX8 yX8_openOf wsX8_openOf) := goodIn_app (goodIn_of _ (by decide +kernel)) ggX8_owed_X8_openOf
theorem dX8_owed_0 : decode cX8_owed 0 = .ok (.aload_n 0, 1) := by decide +kernel
theorem dX8_owed_1 : decode cX8_owed 1 = .ok (.getfield 12, 3) := by decide +kernel
theorem dX8_owed_4 : decode cX8_owed 4 = .ok (.iload_n 1, 1) := by decide +kernel
theorem dX8_owed_5 : decode cX8_owed 5 = .ok (.invokevirtual 47, 3) := by decide +kernel
theorem dX8_owed_8 : decode cX8_owed 8 = .ok (.ifnull 11, 3) := by decide +kernel
theorem dX8_owed_11 : decode cX8_owed 11 = .ok (.iload_n 2, 1) := by decide +kernel
theorem dX8_owed_12 : decode cX8_owed 12 = .ok (.iconst 2, 1) := by decide +kernel
theorem dX8_owed_13 : decode cX8_owed 13 = .ok (.invokestatic 34, 3) := by decide +kernel
theorem dX8_owed_16 : decode cX8_owed 16 = .ok (.ifCond .ne 5, 3) := by decide +kernel
theorem dX8_owed_19 : decode cX8_owed 19 = .ok (.iconst (-1), 1) := by decide +kernel
theorem dX8_owed_20 : decode cX8_owed 20 = .ok (.ireturn, 1) := by decide +kernel
theorem dX8_owed_21 : decode cX8_owed 21 = .ok (.iconst 0, 1) := by decide +kernel
theorem dX8_owed_22 : decode cX8_owed 22 = .ok (.istore_n 3, 1) := by decide +kernel
theorem dX8_owed_23 : decode cX8_owed 23 = .ok (.iconst 0, 1) := by decide +kernel
theorem dX8_owed_24 : decode cX8_owed 24 = .ok (.istore 4, 2) := by decide +kernel
theorem dX8_owed_26 : decode cX8_owed 26 = .ok (.iload 4, 2) := by decide +kernel
theorem dX8_owed_28 : decode cX8_owed 28 = .ok (.bipush 10, 2) := by decide +kernel
theorem dX8_owed_30 : decode cX8_owed 30 = .ok (.if_icmp .ge 37, 3) := by decide +kernel
theorem dX8_owed_33 : decode cX8_owed 33 = .ok (.aload_n 0, 1) := by decide +kernel
theorem dX8_owed_34 : decode cX8_owed 34 = .ok (.iload_n 1, 1) := by decide +kernel
theorem dX8_owed_35 : decode cX8_owed 35 = .ok (.iload 4, 2) := by decide +kernel
theorem dX8_owed_37 : decode cX8_owed 37 = .ok (.invokevirtual 195, 3) := by decide +kernel
theorem dX8_owed_40 : decode cX8_owed 40 = .ok (.istore 5, 2) := by decide +kernel
theorem dX8_owed_42 : decode cX8_owed 42 = .ok (.iload_n 3, 1) := by decide +kernel
theorem dX8_owed_43 : decode cX8_owed 43 = .ok (.iconst 0, 1) := by decide +kernel
theorem dX8_owed_44 : decode cX8_owed 44 = .ok (.iload_n 2, 1) := by decide +kernel
theorem dX8_owed_45 : decode cX8_owed 45 = .ok (.ifCond .ne 8, 3) := by decide +kernel
theorem dX8_owed_48 : decode cX8_owed 48 = .ok (.iload 5, 2) := by decide +kernel
theorem dX8_owed_50 : decode cX8_owed 50 = .ok (.goto 6, 3) := by decide +kernel
theorem dX8_owed_53 : decode cX8_owed 53 = .ok (.iload 5, 2) := by decide +kernel
theorem dX8_owed_55 : decode cX8_owed 55 = .ok (.ineg, 1) := by decide +kernel
theorem dX8_owed_56 : decode cX8_owed 56 = .ok (.invokestatic 199, 3) := by decide +kernel
theorem dX8_owed_59 : decode cX8_owed 59 = .ok (.iadd, 1) := by decide +kernel
theorem dX8_owed_60 : decode cX8_owed 60 = .ok (.istore_n 3, 1) := by decide +kernel
theorem dX8_owed_61 : decode cX8_owed 61 = .ok (.iinc 4 1, 3) := by decide +kernel
theorem dX8_owed_64 : decode cX8_owed 64 = .ok (.goto (-38), 3) := by decide +kernel
theorem dX8_owed_67 : decode cX8_owed 67 = .ok (.iload_n 3, 1) := by decide +kernel
theorem dX8_owed_68 : decode cX8_owed 68 = .ok (.ireturn, 1) := by decide +kernel
set_option maxRecDepth 20000 in
theorem ggX8_ward_X8_bookOf : GoodIn wsX8_ward wsX8_bookOf := goodIn_r _ [8, 9, 56, 57, 58, 59] (by decide +kernel) (by decide +kernel)
set_option maxRecDepth 20000 in
theorem gX8_ward_X8_bookOf : GoodIn wsX8_ward (wsV RX8 166 RX8 yX8_bookOf wsX8_bookOf) := goodIn_app (goodIn_of _ (by decide +kernel)) ggX8_ward_X8_bookOf
set_option maxRecDepth 20000 in
theorem ggX8_ward_X8_isWithin : GoodIn wsX8_ward wsX8_isWithin := goodIn_r _ [12] (by decide +kernel) (by decide +kernel)
set_option maxRecDepth 20000 in
theorem gX8_ward_X8_isWithin : GoodIn wsX8_ward (va_wsS RX8 38 yX8_isWithin wsX8_isWithin) := goodIn_app (goodIn_of _ (by decide +kernel)) ggX8_ward_X8_isWithin
set_option maxRecDepth 20000 in
theorem ggX8_ward_X8_isOf : GoodIn wsX8_ward wsX8_isOf := goodIn_r _ [15] (by decide +kernel) (by decide +kernel)
set_option maxRecDepth 20000 in
theorem gX8_ward_X8_isOf : GoodIn wsX8_ward (va_wsS RX8 34 yX8_isOf wsX8_isOf) := goodIn_app (goodIn_of _ (by decide +kernel)) ggX8_ward_X8_isOf
set_option maxRecDepth 20000 in
theorem ggX8_ward_X8_billedIn : GoodIn wsX8_ward wsX8_billedIn := goodIn_r _ [19, 20, 21, 22, 23, 24, 25, 26, 27, 28, 29, 30, 31, 32, 33, 34, 35, 36, 37, 38, 39, 40, 41, 56, 57, 58, 59, 60, 61, 62, 63, 64, 65, 66, 67, 68, 51, 52, 53, 54, 55] (by decide +kernel) (by decide +kernel)
set_option maxRecDepth 20000 in
theorem gX8_ward_X8_billedIn : GoodIn wsX8_ward (wsV RX8 204 RX8 yX8_billedIn wsX8_billedIn) := goodIn_app (goodIn_of _ (by decide +kernel)) ggX8_ward_X8_billedIn
set_option maxRecDepth 20000 in
theorem ggX8_ward_X8_paidIn : GoodIn wsX8_ward wsX8_paidIn := goodIn_r _ [45, 20, 25, 26, 27, 28, 29, 30, 31, 32, 33, 34, 35, 46, 47, 48, 39, 49, 50, 56, 57, 58, 59, 60, 61, 62, 63, 64, 65, 66, 67, 68, 51, 52, 53, 54, 55] (by decide +kernel) (by decide +kernel)
set_option maxRecDepth 20000 in
theorem gX8_ward_X8_paidIn : GoodIn wsX8_ward (wsV RX8 208 RX8 yX8_paidIn wsX8_paidIn) := goodIn_app (goodIn_of _ (by decide +kernel)) ggX8_ward_X8_paidIn
theorem dX8_ward_0 : decode cX8_ward 0 = .ok (.aload_n 0, 1) := by decide +kernel
theorem dX8_ward_1 : decode cX8_ward 1 = .ok (.iload_n 2, 1) := by decide +kernel
theorem dX8_ward_2 : decode cX8_ward 2 = .ok (.invokevirtual 166, 3) := by decide +kernel
theorem dX8_ward_5 : decode cX8_ward 5 = .ok (.astore 4, 2) := by decide +kernel
theorem dX8_ward_7 : decode cX8_ward 7 = .ok (.iload_n 1, 1) := by decide +kernel
theorem dX8_ward_8 : decode cX8_ward 8 = .ok (.iconst (-1), 1) := by decide +kernel
theorem dX8_ward_9 : decode cX8_ward 9 = .ok (.iconst 3, 1) := by decide +kernel
theorem dX8_ward_10 : decode cX8_ward 10 = .ok (.invokestatic 38, 3) := by decide +kernel
theorem dX8_ward_13 : decode cX8_ward 13 = .ok (.ifCond .eq 16, 3) := by decide +kernel
theorem dX8_ward_16 : decode cX8_ward 16 = .ok (.aload 4, 2) := by decide +kernel
theorem dX8_ward_18 : decode cX8_ward 18 = .ok (.ifnull 11, 3) := by decide +kernel
theorem dX8_ward_21 : decode cX8_ward 21 = .ok (.iload_n 3, 1) := by decide +kernel
theorem dX8_ward_22 : decode cX8_ward 22 = .ok (.iconst 4, 1) := by decide +kernel
theorem dX8_ward_23 : decode cX8_ward 23 = .ok (.invokestatic 34, 3) := by decide +kernel
theorem dX8_ward_26 : decode cX8_ward 26 = .ok (.ifCond .ne 5, 3) := by decide +kernel
theorem dX8_ward_29 : decode cX8_ward 29 = .ok (.iconst (-1), 1) := by decide +kernel
theorem dX8_ward_30 : decode cX8_ward 30 = .ok (.ireturn, 1) := by decide +kernel
theorem dX8_ward_31 : decode cX8_ward 31 = .ok (.aload 4, 2) := by decide +kernel
theorem dX8_ward_33 : decode cX8_ward 33 = .ok (.getfield 170, 3) := by decide +kernel
theorem dX8_ward_36 : decode cX8_ward 36 = .ok (.ifCond .ne 6, 3) := by decide +kernel
theorem dX8_ward_39 : decode cX8_ward 39 = .ok (.bipush (-2), 2) := by decide +kernel
theorem dX8_ward_41 : decode cX8_ward 41 = .ok (.ireturn, 1) := by decide +kernel
theorem dX8_ward_42 : decode cX8_ward 42 = .ok (.iload_n 3, 1) := by decide +kernel
theorem dX8_ward_43 : decode cX8_ward 43 = .ok (.tableswitch 47 0 2 #[25, 33, 41], 25) := by decide +kernel
theorem dX8_ward_68 : decode cX8_ward 68 = .ok (.aload_n 0, 1) := by decide +kernel
theorem dX8_ward_69 : decode cX8_ward 69 = .ok (.iload_n 1, 1) := by decide +kernel
theorem dX8_ward_70 : decode cX8_ward 70 = .ok (.aload 4, 2) := by decide +kernel
theorem dX8_ward_72 : decode cX8_ward 72 = .ok (.invokevirtual 204, 3) := by decide +kernel
theorem dX8_ward_75 : decode cX8_ward 75 = .ok (.ireturn, 1) := by decide +kernel
theorem dX8_ward_76 : decode cX8_ward 76 = .ok (.aload_n 0, 1) := by decide +kernel
theorem dX8_ward_77 : decode cX8_ward 77 = .ok (.iload_n 1, 1) := by decide +kernel
theorem dX8_ward_78 : decode cX8_ward 78 = .ok (.aload 4, 2) := by decide +kernel
theorem dX8_ward_80 : decode cX8_ward 80 = .ok (.invokevirtual 208, 3) := by decide +kernel
theorem dX8_ward_83 : decode cX8_ward 83 = .ok (.ireturn, 1) := by decide +kernel
theorem dX8_ward_84 : decode cX8_ward 84 = .ok (.aload 4, 2) := by decide +kernel
theorem dX8_ward_86 : decode cX8_ward 86 = .ok (.getfield 177, 3) := by decide +kernel
theorem dX8_ward_89 : decode cX8_ward 89 = .ok (.ireturn, 1) := by decide +kernel
theorem dX8_ward_90 : decode cX8_ward 90 = .ok (.aload 4, 2) := by decide +kernel
theorem dX8_ward_92 : decode cX8_ward 92 = .ok (.getfield 174, 3) := by decide +kernel
theorem dX8_ward_95 : decode cX8_ward 95 = .ok (.ireturn, 1) := by decide +kernel
set_option maxRecDepth 20000 in
theorem ggX8_count_X5_eventsTold : GoodIn wsX8_count wsX5_eventsTold := goodIn_r _ [7, 8, 9, 26, 27, 30, 31, 32, 33, 34, 35, 36, 37, 38] (by decide +kernel) (by decide +kernel)
set_option maxRecDepth 20000 in
theorem gX8_count_X5_eventsTold : GoodIn wsX8_count (wsV RX8 214 RX5 yX5_eventsTold wsX5_eventsTold) := goodIn_app (goodIn_of _ (by decide +kernel)) ggX8_count_X5_eventsTold
set_option maxRecDepth 20000 in
theorem ggX8_count_X8_struckYears : GoodIn wsX8_count wsX8_struckYears := goodIn_r _ [14, 15, 16, 22, 23, 24, 25, 39, 40, 41, 42, 43] (by decide +kernel) (by decide +kernel)
set_option maxRecDepth 20000 in
theorem gX8_count_X8_struckYears : GoodIn wsX8_count (wsV RX8 218 RX8 yX8_struckYears wsX8_struckYears) := goodIn_app (goodIn_of _ (by decide +kernel)) ggX8_count_X8_struckYears
set_option maxRecDepth 20000 in
theorem ggX8_count_X5_rentsKnown : GoodIn wsX8_count wsX5_rentsKnown := goodIn_r _ [20, 8, 21, 26, 27, 30, 31, 32, 33, 34, 35, 36] (by decide +kernel) (by decide +kernel)
set_option maxRecDepth 20000 in
theorem gX8_count_X5_rentsKnown : GoodIn wsX8_count (wsV RX8 221 RX5 yX5_rentsKnown wsX5_rentsKnown) := goodIn_app (goodIn_of _ (by decide +kernel)) ggX8_count_X5_rentsKnown
theorem dX8_count_0 : decode cX8_count 0 = .ok (.iload_n 1, 1) := by decide +kernel
theorem dX8_count_1 : decode cX8_count 1 = .ok (.tableswitch 72 0 4 #[35, 43, 51, 59, 64], 35) := by decide +kernel
theorem dX8_count_36 : decode cX8_count 36 = .ok (.aload_n 0, 1) := by decide +kernel
theorem dX8_count_37 : decode cX8_count 37 = .ok (.getfield 12, 3) := by decide +kernel
theorem dX8_count_40 : decode cX8_count 40 = .ok (.getfield 180, 3) := by decide +kernel
theorem dX8_count_43 : decode cX8_count 43 = .ok (.ireturn, 1) := by decide +kernel
theorem dX8_count_44 : decode cX8_count 44 = .ok (.aload_n 0, 1) := by decide +kernel
theorem dX8_count_45 : decode cX8_count 45 = .ok (.getfield 19, 3) := by decide +kernel
theorem dX8_count_48 : decode cX8_count 48 = .ok (.getfield 211, 3) := by decide +kernel
theorem dX8_count_51 : decode cX8_count 51 = .ok (.ireturn, 1) := by decide +kernel
theorem dX8_count_52 : decode cX8_count 52 = .ok (.aload_n 0, 1) := by decide +kernel
theorem dX8_count_53 : decode cX8_count 53 = .ok (.getfield 12, 3) := by decide +kernel
theorem dX8_count_56 : decode cX8_count 56 = .ok (.invokevirtual 214, 3) := by decide +kernel
theorem dX8_count_59 : decode cX8_count 59 = .ok (.ireturn, 1) := by decide +kernel
theorem dX8_count_60 : decode cX8_count 60 = .ok (.aload_n 0, 1) := by decide +kernel
theorem dX8_count_61 : decode cX8_count 61 = .ok (.invokevirtual 218, 3) := by decide +kernel
theorem dX8_count_64 : decode cX8_count 64 = .ok (.ireturn, 1) := by decide +kernel
theorem dX8_count_65 : decode cX8_count 65 = .ok (.aload_n 0, 1) := by decide +kernel
theorem dX8_count_66 : decode cX8_count 66 = .ok (.getfield 12, 3) := by decide +kernel
theorem dX8_count_69 : decode cX8_count 69 = .ok (.invokevirtual 221, 3) := by decide +kernel
theorem dX8_count_72 : decode cX8_count 72 = .ok (.ireturn, 1) := by decide +kernel
theorem dX8_count_73 : decode cX8_count 73 = .ok (.iconst (-1), 1) := by decide +kernel
theorem dX8_count_74 : decode cX8_count 74 = .ok (.ireturn, 1) := by decide +kernel
theorem dX8_isWithin_0 : decode cX8_isWithin 0 = .ok (.iload_n 0, 1) := by decide +kernel
theorem dX8_isWithin_1 : decode cX8_isWithin 1 = .ok (.iload_n 1, 1) := by decide +kernel
theorem dX8_isWithin_2 : decode cX8_isWithin 2 = .ok (.if_icmp .lt 12, 3) := by decide +kernel
theorem dX8_isWithin_5 : decode cX8_isWithin 5 = .ok (.iload_n 0, 1) := by decide +kernel
theorem dX8_isWithin_6 : decode cX8_isWithin 6 = .ok (.iload_n 2, 1) := by decide +kernel
theorem dX8_isWithin_7 : decode cX8_isWithin 7 = .ok (.if_icmp .gt 7, 3) := by decide +kernel
theorem dX8_isWithin_10 : decode cX8_isWithin 10 = .ok (.iconst 1, 1) := by decide +kernel
theorem dX8_isWithin_11 : decode cX8_isWithin 11 = .ok (.goto 4, 3) := by decide +kernel
theorem dX8_isWithin_14 : decode cX8_isWithin 14 = .ok (.iconst 0, 1) := by decide +kernel
theorem dX8_isWithin_15 : decode cX8_isWithin 15 = .ok (.ireturn, 1) := by decide +kernel
theorem dX8_isOf_0 : decode cX8_isOf 0 = .ok (.iload_n 0, 1) := by decide +kernel
theorem dX8_isOf_1 : decode cX8_isOf 1 = .ok (.ifCond .lt 12, 3) := by decide +kernel
theorem dX8_isOf_4 : decode cX8_isOf 4 = .ok (.iload_n 0, 1) := by decide +kernel
theorem dX8_isOf_5 : decode cX8_isOf 5 = .ok (.iload_n 1, 1) := by decide +kernel
theorem dX8_isOf_6 : decode cX8_isOf 6 = .ok (.if_icmp .ge 7, 3) := by decide +kernel
theorem dX8_isOf_9 : decode cX8_isOf 9 = .ok (.iconst 1, 1) := by decide +kernel
theorem dX8_isOf_10 : decode cX8_isOf 10 = .ok (.goto 4, 3) := by decide +kernel
theorem dX8_isOf_13 : decode cX8_isOf 13 = .ok (.iconst 0, 1) := by decide +kernel
theorem dX8_isOf_14 : decode cX8_isOf 14 = .ok (.ireturn, 1) := by decide +kernel
theorem dX8_sooner_0 : decode cX8_sooner 0 = .ok (.iload_n 0, 1) := by decide +kernel
theorem dX8_sooner_1 : decode cX8_sooner 1 = .ok (.iload_n 1, 1) := by decide +kernel
theorem dX8_sooner_2 : decode cX8_sooner 2 = .ok (.if_icmp .le 12, 3) := by decide +kernel
theorem dX8_sooner_5 : decode cX8_sooner 5 = .ok (.iload_n 0, 1) := by decide +kernel
theorem dX8_sooner_6 : decode cX8_sooner 6 = .ok (.iload_n 2, 1) := by decide +kernel
theorem dX8_sooner_7 : decode cX8_sooner 7 = .ok (.if_icmp .ge 7, 3) := by decide +kernel
theorem dX8_sooner_10 : decode cX8_sooner 10 = .ok (.iload_n 0, 1) := by decide +kernel
theorem dX8_sooner_11 : decode cX8_sooner 11 = .ok (.goto 4, 3) := by decide +kernel
theorem dX8_sooner_14 : decode cX8_sooner 14 = .ok (.iload_n 2, 1) := by decide +kernel
theorem dX8_sooner_15 : decode cX8_sooner 15 = .ok (.ireturn, 1) := by decide +kernel
set_option maxRecDepth 20000 in
theorem ggX8_isEvent_X8_isWithin : GoodIn wsX8_isEvent wsX8_isWithin := goodIn_r _ [4] (by decide +kernel) (by decide +kernel)
set_option maxRecDepth 20000 in
theorem gX8_isEvent_X8_isWithin : GoodIn wsX8_isEvent (va_wsS RX8 38 yX8_isWithin wsX8_isWithin) := goodIn_app (goodIn_of _ (by decide +kernel)) ggX8_isEvent_X8_isWithin
theorem dX8_isEvent_0 : decode cX8_isEvent 0 = .ok (.iload_n 0, 1) := by decide +kernel
theorem dX8_isEvent_1 : decode cX8_isEvent 1 = .ok (.tableswitch 52 0 2 #[27, 36, 43], 27) := by decide +kernel
theorem dX8_isEvent_28 : decode cX8_isEvent 28 = .ok (.iload_n 1, 1) := by decide +kernel
theorem dX8_isEvent_29 : decode cX8_isEvent 29 = .ok (.iconst 1, 1) := by decide +kernel
theorem dX8_isEvent_30 : decode cX8_isEvent 30 = .ok (.sipush 500, 3) := by decide +kernel
theorem dX8_isEvent_33 : decode cX8_isEvent 33 = .ok (.invokestatic 38, 3) := by decide +kernel
theorem dX8_isEvent_36 : decode cX8_isEvent 36 = .ok (.ireturn, 1) := by decide +kernel
theorem dX8_isEvent_37 : decode cX8_isEvent 37 = .ok (.iload_n 1, 1) := by decide +kernel
theorem dX8_isEvent_38 : decode cX8_isEvent 38 = .ok (.iconst 0, 1) := by decide +kernel
theorem dX8_isEvent_39 : decode cX8_isEvent 39 = .ok (.iconst 3, 1) := by decide +kernel
theorem dX8_isEvent_40 : decode cX8_isEvent 40 = .ok (.invokestatic 38, 3) := by decide +kernel
theorem dX8_isEvent_43 : decode cX8_isEvent 43 = .ok (.ireturn, 1) := by decide +kernel
theorem dX8_isEvent_44 : decode cX8_isEvent 44 = .ok (.iload_n 1, 1) := by decide +kernel
theorem dX8_isEvent_45 : decode cX8_isEvent 45 = .ok (.iconst 1, 1) := by decide +kernel
theorem dX8_isEvent_46 : decode cX8_isEvent 46 = .ok (.sipush 900, 3) := by decide +kernel
theorem dX8_isEvent_49 : decode cX8_isEvent 49 = .ok (.invokestatic 38, 3) := by decide +kernel
theorem dX8_isEvent_52 : decode cX8_isEvent 52 = .ok (.ireturn, 1) := by decide +kernel
theorem dX8_isEvent_53 : decode cX8_isEvent 53 = .ok (.iconst 0, 1) := by decide +kernel
theorem dX8_isEvent_54 : decode cX8_isEvent 54 = .ok (.ireturn, 1) := by decide +kernel
set_option maxRecDepth 20000 in
theorem ggX8_cutOne_X1_isFull : GoodIn wsX8_cutOne wsX1_isFull := goodIn_r _ [6, 7, 8, 34, 35] (by decide +kernel) (by decide +kernel)
set_option maxRecDepth 20000 in
theorem gX8_cutOne_X1_isFull : GoodIn wsX8_cutOne (wsV RX8 109 RX1 yX1_isFull wsX1_isFull) := goodIn_app (goodIn_of _ (by decide +kernel)) ggX8_cutOne_X1_isFull
set_option maxRecDepth 20000 in
theorem ggX8_cutOne_X1_add : GoodIn wsX8_cutOne wsX1_add := goodIn_r _ [12, 7, 8, 13, 14, 15, 16, 17, 18, 19, 20, 21, 22, 23, 24, 25, 26, 34, 35, 36, 37, 38, 39] (by decide +kernel) (by decide +kernel)
set_option maxRecDepth 20000 in
theorem gX8_cutOne_X1_add : GoodIn wsX8_cutOne (wsV RX8 112 RX1 yX1_add wsX1_add) := goodIn_app (goodIn_of _ (by decide +kernel)) ggX8_cutOne_X1_add
theorem dX8_cutOne_0 : decode cX8_cutOne 0 = .ok (.aload_n 0, 1) := by decide +kernel
theorem dX8_cutOne_1 : decode cX8_cutOne 1 = .ok (.getfield 105, 3) := by decide +kernel
theorem dX8_cutOne_4 : decode cX8_cutOne 4 = .ok (.invokevirtual 109, 3) := by decide +kernel
theorem dX8_cutOne_7 : decode cX8_cutOne 7 = .ok (.ifCond .eq 6, 3) := by decide +kernel
theorem dX8_cutOne_10 : decode cX8_cutOne 10 = .ok (.bipush (-3), 2) := by decide +kernel
theorem dX8_cutOne_12 : decode cX8_cutOne 12 = .ok (.ireturn, 1) := by decide +kernel
theorem dX8_cutOne_13 : decode cX8_cutOne 13 = .ok (.aload_n 0, 1) := by decide +kernel
theorem dX8_cutOne_14 : decode cX8_cutOne 14 = .ok (.getfield 105, 3) := by decide +kernel
theorem dX8_cutOne_17 : decode cX8_cutOne 17 = .ok (.iload_n 1, 1) := by decide +kernel
theorem dX8_cutOne_18 : decode cX8_cutOne 18 = .ok (.iconst 2, 1) := by decide +kernel
theorem dX8_cutOne_19 : decode cX8_cutOne 19 = .ok (.iload_n 2, 1) := by decide +kernel
theorem dX8_cutOne_20 : decode cX8_cutOne 20 = .ok (.invokevirtual 112, 3) := by decide +kernel
theorem dX8_cutOne_23 : decode cX8_cutOne 23 = .ok (.iconst 1, 1) := by decide +kernel
theorem dX8_cutOne_24 : decode cX8_cutOne 24 = .ok (.ireturn, 1) := by decide +kernel
set_option maxRecDepth 20000 in
theorem ggX8_cutLike_X5_at : GoodIn wsX8_cutLike wsX5_at := goodIn_r _ [7, 8, 45, 46] (by decide +kernel) (by decide +kernel)
set_option maxRecDepth 20000 in
theorem gX8_cutLike_X5_at : GoodIn wsX8_cutLike (wsV RX8 47 RX5 yX5_at wsX5_at) := goodIn_app (goodIn_of _ (by decide +kernel)) ggX8_cutLike_X5_at
set_option maxRecDepth 20000 in
theorem ggX8_cutLike_X2_isLike : GoodIn wsX8_cutLike wsX2_isLike := goodIn_r _ [13, 14, 15, 47, 48, 49, 50, 51, 52, 53] (by decide +kernel) (by decide +kernel)
set_option maxRecDepth 20000 in
theorem gX8_cutLike_X2_isLike : GoodIn wsX8_cutLike (wsV RX8 224 RX2 yX2_isLike wsX2_isLike) := goodIn_app (goodIn_of _ (by decide +kernel)) ggX8_cutLike_X2_isLike
set_option maxRecDepth 20000 in
theorem ggX8_cutLike_X1_isFull : GoodIn wsX8_cutLike wsX1_isFull := goodIn_r _ [20, 21, 22, 54, 55] (by decide +kernel) (by decide +kernel)
set_option maxRecDepth 20000 in
theorem gX8_cutLike_X1_isFull : GoodIn wsX8_cutLike (wsV RX8 109 RX1 yX1_isFull wsX1_isFull) := goodIn_app (goodIn_of _ (by decide +kernel)) ggX8_cutLike_X1_isFull
set_option maxRecDepth 20000 in
theorem ggX8_cutLike_X1_add : GoodIn wsX8_cutLike wsX1_add := goodIn_r _ [26, 21, 22, 27, 28, 29, 30, 31, 32, 33, 34, 35, 36, 37, 38, 39, 40, 54, 55, 56, 57, 58, 59] (by decide +kernel) (by decide +kernel)
set_option maxRecDepth 20000 in
theorem gX8_cutLike_X1_add : GoodIn wsX8_cutLike (wsV RX8 112 RX1 yX1_add wsX1_add) := goodIn_app (goodIn_of _ (by decide +kernel)) ggX8_cutLike_X1_add
theorem dX8_cutLike_0 : decode cX8_cutLike 0 = .ok (.iconst 0, 1) := by decide +kernel
theorem dX8_cutLike_1 : decode cX8_cutLike 1 = .ok (.istore 4, 2) := by decide +kernel
theorem dX8_cutLike_3 : decode cX8_cutLike 3 = .ok (.iload 4, 2) := by decide +kernel
theorem dX8_cutLike_5 : decode cX8_cutLike 5 = .ok (.aload_n 0, 1) := by decide +kernel
theorem dX8_cutLike_6 : decode cX8_cutLike 6 = .ok (.getfield 12, 3) := by decide +kernel
theorem dX8_cutLike_9 : decode cX8_cutLike 9 = .ok (.getfield 180, 3) := by decide +kernel
theorem dX8_cutLike_12 : decode cX8_cutLike 12 = .ok (.if_icmp .ge 48, 3) := by decide +kernel
theorem dX8_cutLike_15 : decode cX8_cutLike 15 = .ok (.aload_n 0, 1) := by decide +kernel
theorem dX8_cutLike_16 : decode cX8_cutLike 16 = .ok (.getfield 12, 3) := by decide +kernel
theorem dX8_cutLike_19 : decode cX8_cutLike 19 = .ok (.iload 4, 2) := by decide +kernel
theorem dX8_cutLike_21 : decode cX8_cutLike 21 = .ok (.invokevirtual 47, 3) := by decide +kernel
theorem dX8_cutLike_24 : decode cX8_cutLike 24 = .ok (.astore 5, 2) := by decide +kernel
theorem dX8_cutLike_26 : decode cX8_cutLike 26 = .ok (.aload 5, 2) := by decide +kernel
theorem dX8_cutLike_28 : decode cX8_cutLike 28 = .ok (.ifnull 26, 3) := by decide +kernel
theorem dX8_cutLike_31 : decode cX8_cutLike 31 = .ok (.aload 5, 2) := by decide +kernel
theorem dX8_cutLike_33 : decode cX8_cutLike 33 = .ok (.aload_n 1, 1) := by decide +kernel
theorem dX8_cutLike_34 : decode cX8_cutLike 34 = .ok (.invokevirtual 224, 3) := by decide +kernel
theorem dX8_cutLike_37 : decode cX8_cutLike 37 = .ok (.ifCond .eq 17, 3) := by decide +kernel
theorem dX8_cutLike_40 : decode cX8_cutLike 40 = .ok (.aload 5, 2) := by decide +kernel
theorem dX8_cutLike_42 : decode cX8_cutLike 42 = .ok (.getfield 105, 3) := by decide +kernel
theorem dX8_cutLike_45 : decode cX8_cutLike 45 = .ok (.invokevirtual 109, 3) := by decide +kernel
theorem dX8_cutLike_48 : decode cX8_cutLike 48 = .ok (.ifCond .eq 6, 3) := by decide +kernel
theorem dX8_cutLike_51 : decode cX8_cutLike 51 = .ok (.bipush (-3), 2) := by decide +kernel
theorem dX8_cutLike_53 : decode cX8_cutLike 53 = .ok (.ireturn, 1) := by decide +kernel
theorem dX8_cutLike_54 : decode cX8_cutLike 54 = .ok (.iinc 4 1, 3) := by decide +kernel
theorem dX8_cutLike_57 : decode cX8_cutLike 57 = .ok (.goto (-54), 3) := by decide +kernel
theorem dX8_cutLike_60 : decode cX8_cutLike 60 = .ok (.iconst 0, 1) := by decide +kernel
theorem dX8_cutLike_61 : decode cX8_cutLike 61 = .ok (.istore 4, 2) := by decide +kernel
theorem dX8_cutLike_63 : decode cX8_cutLike 63 = .ok (.iconst 0, 1) := by decide +kernel
theorem dX8_cutLike_64 : decode cX8_cutLike 64 = .ok (.istore 5, 2) := by decide +kernel
theorem dX8_cutLike_66 : decode cX8_cutLike 66 = .ok (.iload 5, 2) := by decide +kernel
theorem dX8_cutLike_68 : decode cX8_cutLike 68 = .ok (.aload_n 0, 1) := by decide +kernel
theorem dX8_cutLike_69 : decode cX8_cutLike 69 = .ok (.getfield 12, 3) := by decide +kernel
theorem dX8_cutLike_72 : decode cX8_cutLike 72 = .ok (.getfield 180, 3) := by decide +kernel
theorem dX8_cutLike_75 : decode cX8_cutLike 75 = .ok (.if_icmp .ge 48, 3) := by decide +kernel
theorem dX8_cutLike_78 : decode cX8_cutLike 78 = .ok (.aload_n 0, 1) := by decide +kernel
theorem dX8_cutLike_79 : decode cX8_cutLike 79 = .ok (.getfield 12, 3) := by decide +kernel
theorem dX8_cutLike_82 : decode cX8_cutLike 82 = .ok (.iload 5, 2) := by decide +kernel
theorem dX8_cutLike_84 : decode cX8_cutLike 84 = .ok (.invokevirtual 47, 3) := by decide +kernel
theorem dX8_cutLike_87 : decode cX8_cutLike 87 = .ok (.astore 6, 2) := by decide +kernel
theorem dX8_cutLike_89 : decode cX8_cutLike 89 = .ok (.aload 6, 2) := by decide +kernel
theorem dX8_cutLike_91 : decode cX8_cutLike 91 = .ok (.ifnull 26, 3) := by decide +kernel
theorem dX8_cutLike_94 : decode cX8_cutLike 94 = .ok (.aload 6, 2) := by decide +kernel
theorem dX8_cutLike_96 : decode cX8_cutLike 96 = .ok (.aload_n 1, 1) := by decide +kernel
theorem dX8_cutLike_97 : decode cX8_cutLike 97 = .ok (.invokevirtual 224, 3) := by decide +kernel
theorem dX8_cutLike_100 : decode cX8_cutLike 100 = .ok (.ifCond .eq 17, 3) := by decide +kernel
theorem dX8_cutLike_103 : decode cX8_cutLike 103 = .ok (.aload 6, 2) := by decide +kernel
theorem dX8_cutLike_105 : decode cX8_cutLike 105 = .ok (.getfield 105, 3) := by decide +kernel
theorem dX8_cutLike_108 : decode cX8_cutLike 108 = .ok (.iload_n 2, 1) := by decide +kernel
theorem dX8_cutLike_109 : decode cX8_cutLike 109 = .ok (.iconst 2, 1) := by decide +kernel
theorem dX8_cutLike_110 : decode cX8_cutLike 110 = .ok (.iload_n 3, 1) := by decide +kernel
theorem dX8_cutLike_111 : decode cX8_cutLike 111 = .ok (.invokevirtual 112, 3) := by decide +kernel
theorem dX8_cutLike_114 : decode cX8_cutLike 114 = .ok (.iinc 4 1, 3) := by decide +kernel
theorem dX8_cutLike_117 : decode cX8_cutLike 117 = .ok (.iinc 5 1, 3) := by decide +kernel
theorem dX8_cutLike_120 : decode cX8_cutLike 120 = .ok (.goto (-54), 3) := by decide +kernel
theorem dX8_cutLike_123 : decode cX8_cutLike 123 = .ok (.iload 4, 2) := by decide +kernel
theorem dX8_cutLike_125 : decode cX8_cutLike 125 = .ok (.ireturn, 1) := by decide +kernel
set_option maxRecDepth 20000 in
theorem ggX8_worthOn_X3_standingOn : GoodIn wsX8_worthOn wsX3_standingOn := goodIn_r _ [10, 11, 12, 65, 66, 63, 64] (by decide +kernel) (by decide +kernel)
set_option maxRecDepth 20000 in
theorem gX8_worthOn_X3_standingOn : GoodIn wsX8_worthOn (wsV RX8 145 RX3 yX3_standingOn wsX3_standingOn) := goodIn_app (goodIn_of _ (by decide +kernel)) ggX8_worthOn_X3_standingOn
set_option maxRecDepth 20000 in
theorem ggX8_worthOn_X3_at : GoodIn wsX8_worthOn wsX3_at := goodIn_r _ [16, 11, 65, 66] (by decide +kernel) (by decide +kernel)
set_option maxRecDepth 20000 in
theorem gX8_worthOn_X3_at : GoodIn wsX8_worthOn (wsV RX8 228 RX3 yX3_at wsX3_at) := goodIn_app (goodIn_of _ (by decide +kernel)) ggX8_worthOn_X3_at
set_option maxRecDepth 20000 in
theorem ggX8_worthOn_X4_unitFor : GoodIn wsX8_worthOn wsX4_unitFor := goodIn_r _ [21, 22, 63, 64] (by decide +kernel) (by decide +kernel)
set_option maxRecDepth 20000 in
theorem gX8_worthOn_X4_unitFor : GoodIn wsX8_worthOn (wsV RX8 231 RX4 yX4_unitFor wsX4_unitFor) := goodIn_app (goodIn_of _ (by decide +kernel)) ggX8_worthOn_X4_unitFor
set_option maxRecDepth 20000 in
theorem ggX8_worthOn_X2_sizeOn : GoodIn wsX8_worthOn wsX2_sizeOn := goodIn_r _ [27, 28, 29, 30, 31, 32, 33, 34, 35, 36, 37, 38, 56, 57, 58, 59, 60, 61, 62, 67, 68, 69, 70, 71, 72] (by decide +kernel) (by decide +kernel)
set_option maxRecDepth 20000 in
theorem gX8_worthOn_X2_sizeOn : GoodIn wsX8_worthOn (wsV RX8 128 RX2 yX2_sizeOn wsX2_sizeOn) := goodIn_app (goodIn_of _ (by decide +kernel)) ggX8_worthOn_X2_sizeOn
set_option maxRecDepth 20000 in
theorem ggX8_worthOn_X6_times : GoodIn wsX8_worthOn wsX6_times := goodIn_r _ [43, 44, 45, 73, 74, 75, 76] (by decide +kernel) (by decide +kernel)
set_option maxRecDepth 20000 in
theorem gX8_worthOn_X6_times : GoodIn wsX8_worthOn (wsV RX8 87 RX6 yX6_times wsX6_times) := goodIn_app (goodIn_of _ (by decide +kernel)) ggX8_worthOn_X6_times
set_option maxRecDepth 20000 in
theorem ggX8_worthOn_X1_cutDown : GoodIn wsX8_worthOn wsX1_cutDown := goodIn_r _ [49, 36, 37, 38, 50, 51, 71, 72, 67, 68, 69, 70] (by decide +kernel) (by decide +kernel)
set_option maxRecDepth 20000 in
theorem gX8_worthOn_X1_cutDown : GoodIn wsX8_worthOn (wsV RX8 240 RX1 yX1_cutDown wsX1_cutDown) := goodIn_app (goodIn_of _ (by decide +kernel)) ggX8_worthOn_X1_cutDown
theorem dX8_worthOn_0 : decode cX8_worthOn 0 = .ok (.aload_n 0, 1) := by decide +kernel
theorem dX8_worthOn_1 : decode cX8_worthOn 1 = .ok (.getfield 19, 3) := by decide +kernel
theorem dX8_worthOn_4 : decode cX8_worthOn 4 = .ok (.aload_n 0, 1) := by decide +kernel
theorem dX8_worthOn_5 : decode cX8_worthOn 5 = .ok (.getfield 19, 3) := by decide +kernel
theorem dX8_worthOn_8 : decode cX8_worthOn 8 = .ok (.iload_n 2, 1) := by decide +kernel
theorem dX8_worthOn_9 : decode cX8_worthOn 9 = .ok (.invokevirtual 145, 3) := by decide +kernel
theorem dX8_worthOn_12 : decode cX8_worthOn 12 = .ok (.invokevirtual 228, 3) := by decide +kernel
theorem dX8_worthOn_15 : decode cX8_worthOn 15 = .ok (.astore_n 3, 1) := by decide +kernel
theorem dX8_worthOn_16 : decode cX8_worthOn 16 = .ok (.aload_n 3, 1) := by decide +kernel
theorem dX8_worthOn_17 : decode cX8_worthOn 17 = .ok (.ifnonnull 5, 3) := by decide +kernel
theorem dX8_worthOn_20 : decode cX8_worthOn 20 = .ok (.iconst 0, 1) := by decide +kernel
theorem dX8_worthOn_21 : decode cX8_worthOn 21 = .ok (.ireturn, 1) := by decide +kernel
theorem dX8_worthOn_22 : decode cX8_worthOn 22 = .ok (.aload_n 3, 1) := by decide +kernel
theorem dX8_worthOn_23 : decode cX8_worthOn 23 = .ok (.aload_n 1, 1) := by decide +kernel
theorem dX8_worthOn_24 : decode cX8_worthOn 24 = .ok (.getfield 75, 3) := by decide +kernel
theorem dX8_worthOn_27 : decode cX8_worthOn 27 = .ok (.aload_n 1, 1) := by decide +kernel
theorem dX8_worthOn_28 : decode cX8_worthOn 28 = .ok (.getfield 78, 3) := by decide +kernel
theorem dX8_worthOn_31 : decode cX8_worthOn 31 = .ok (.invokevirtual 231, 3) := by decide +kernel
theorem dX8_worthOn_34 : decode cX8_worthOn 34 = .ok (.astore 4, 2) := by decide +kernel
theorem dX8_worthOn_36 : decode cX8_worthOn 36 = .ok (.aload 4, 2) := by decide +kernel
theorem dX8_worthOn_38 : decode cX8_worthOn 38 = .ok (.ifnonnull 5, 3) := by decide +kernel
theorem dX8_worthOn_41 : decode cX8_worthOn 41 = .ok (.iconst 0, 1) := by decide +kernel
theorem dX8_worthOn_42 : decode cX8_worthOn 42 = .ok (.ireturn, 1) := by decide +kernel
theorem dX8_worthOn_43 : decode cX8_worthOn 43 = .ok (.aload_n 1, 1) := by decide +kernel
theorem dX8_worthOn_44 : decode cX8_worthOn 44 = .ok (.getfield 105, 3) := by decide +kernel
theorem dX8_worthOn_47 : decode cX8_worthOn 47 = .ok (.aload 4, 2) := by decide +kernel
theorem dX8_worthOn_49 : decode cX8_worthOn 49 = .ok (.aload_n 1, 1) := by decide +kernel
theorem dX8_worthOn_50 : decode cX8_worthOn 50 = .ok (.iload_n 2, 1) := by decide +kernel
theorem dX8_worthOn_51 : decode cX8_worthOn 51 = .ok (.invokevirtual 128, 3) := by decide +kernel
theorem dX8_worthOn_54 : decode cX8_worthOn 54 = .ok (.invokevirtual 87, 3) := by decide +kernel
theorem dX8_worthOn_57 : decode cX8_worthOn 57 = .ok (.aload_n 3, 1) := by decide +kernel
theorem dX8_worthOn_58 : decode cX8_worthOn 58 = .ok (.getfield 237, 3) := by decide +kernel
theorem dX8_worthOn_61 : decode cX8_worthOn 61 = .ok (.iload_n 2, 1) := by decide +kernel
theorem dX8_worthOn_62 : decode cX8_worthOn 62 = .ok (.invokevirtual 240, 3) := by decide +kernel
theorem dX8_worthOn_65 : decode cX8_worthOn 65 = .ok (.l2i, 1) := by decide +kernel
theorem dX8_worthOn_66 : decode cX8_worthOn 66 = .ok (.ireturn, 1) := by decide +kernel
set_option maxRecDepth 20000 in
theorem ggX8_countedOn_X8_worthOn : GoodIn wsX8_countedOn wsX8_worthOn := goodIn_r _ [8, 9, 10, 11, 1, 12, 13, 14, 15, 16, 17, 18, 19, 20, 21, 22, 23, 24, 25, 26, 27, 28, 29, 30, 31, 32, 33, 34, 35, 36, 37, 38, 39, 40, 41, 42, 43, 44, 45, 46, 47, 48, 49, 50, 51, 52, 53, 54, 55, 56, 57, 58, 71, 72, 73, 74, 60, 61, 62, 63, 64, 65, 66, 75, 76, 77, 78, 67, 68, 69, 70, 79, 80, 81, 82, 83, 84] (by decide +kernel) (by decide +kernel)
set_option maxRecDepth 20000 in
theorem gX8_countedOn_X8_worthOn : GoodIn wsX8_countedOn (wsV RX8 135 RX8 yX8_worthOn wsX8_worthOn) := goodIn_app (goodIn_of _ (by decide +kernel)) ggX8_countedOn_X8_worthOn
set_option maxRecDepth 20000 in
theorem ggX8_countedOn_X1_latestOf : GoodIn wsX8_countedOn wsX1_latestOf := goodIn_r _ [42, 43, 44, 45, 79, 80, 67, 68, 69, 70] (by decide +kernel) (by decide +kernel)
set_option maxRecDepth 20000 in
theorem gX8_countedOn_X1_latestOf : GoodIn wsX8_countedOn (wsV RX8 244 RX1 yX1_latestOf wsX1_latestOf) := goodIn_app (goodIn_of _ (by decide +kernel)) ggX8_countedOn_X1_latestOf
theorem dX8_countedOn_0 : decode cX8_countedOn 0 = .ok (.aload_n 0, 1) := by decide +kernel
theorem dX8_countedOn_1 : decode cX8_countedOn 1 = .ok (.aload_n 1, 1) := by decide +kernel
theorem dX8_countedOn_2 : decode cX8_countedOn 2 = .ok (.iload_n 2, 1) := by decide +kernel
theorem dX8_countedOn_3 : decode cX8_countedOn 3 = .ok (.invokevirtual 135, 3) := by decide +kernel
theorem dX8_countedOn_6 : decode cX8_countedOn 6 = .ok (.istore_n 3, 1) := by decide +kernel
theorem dX8_countedOn_7 : decode cX8_countedOn 7 = .ok (.aload_n 1, 1) := by decide +kernel
theorem dX8_countedOn_8 : decode cX8_countedOn 8 = .ok (.getfield 105, 3) := by decide +kernel
theorem dX8_countedOn_11 : decode cX8_countedOn 11 = .ok (.iconst 1, 1) := by decide +kernel
theorem dX8_countedOn_12 : decode cX8_countedOn 12 = .ok (.iload_n 2, 1) := by decide +kernel
theorem dX8_countedOn_13 : decode cX8_countedOn 13 = .ok (.invokevirtual 244, 3) := by decide +kernel
theorem dX8_countedOn_16 : decode cX8_countedOn 16 = .ok (.astore 4, 2) := by decide +kernel
theorem dX8_countedOn_18 : decode cX8_countedOn 18 = .ok (.aload 4, 2) := by decide +kernel
theorem dX8_countedOn_20 : decode cX8_countedOn 20 = .ok (.ifnonnull 5, 3) := by decide +kernel
theorem dX8_countedOn_23 : decode cX8_countedOn 23 = .ok (.iload_n 3, 1) := by decide +kernel
theorem dX8_countedOn_24 : decode cX8_countedOn 24 = .ok (.ireturn, 1) := by decide +kernel
theorem dX8_countedOn_25 : decode cX8_countedOn 25 = .ok (.aload 4, 2) := by decide +kernel
theorem dX8_countedOn_27 : decode cX8_countedOn 27 = .ok (.getfield 248, 3) := by decide +kernel
theorem dX8_countedOn_30 : decode cX8_countedOn 30 = .ok (.tableswitch 54 1 3 #[26, 46, 50], 26) := by decide +kernel
theorem dX8_countedOn_56 : decode cX8_countedOn 56 = .ok (.iload_n 2, 1) := by decide +kernel
theorem dX8_countedOn_57 : decode cX8_countedOn 57 = .ok (.aload 4, 2) := by decide +kernel
theorem dX8_countedOn_59 : decode cX8_countedOn 59 = .ok (.getfield 253, 3) := by decide +kernel
theorem dX8_countedOn_62 : decode cX8_countedOn 62 = .ok (.isub, 1) := by decide +kernel
theorem dX8_countedOn_63 : decode cX8_countedOn 63 = .ok (.bipush 90, 2) := by decide +kernel
theorem dX8_countedOn_65 : decode cX8_countedOn 65 = .ok (.if_icmp .ge 7, 3) := by decide +kernel
theorem dX8_countedOn_68 : decode cX8_countedOn 68 = .ok (.iconst 0, 1) := by decide +kernel
theorem dX8_countedOn_69 : decode cX8_countedOn 69 = .ok (.goto 6, 3) := by decide +kernel
theorem dX8_countedOn_72 : decode cX8_countedOn 72 = .ok (.iload_n 3, 1) := by decide +kernel
theorem dX8_countedOn_73 : decode cX8_countedOn 73 = .ok (.iconst 2, 1) := by decide +kernel
theorem dX8_countedOn_74 : decode cX8_countedOn 74 = .ok (.idiv, 1) := by decide +kernel
theorem dX8_countedOn_75 : decode cX8_countedOn 75 = .ok (.ireturn, 1) := by decide +kernel
theorem dX8_countedOn_76 : decode cX8_countedOn 76 = .ok (.iload_n 3, 1) := by decide +kernel
theorem dX8_countedOn_77 : decode cX8_countedOn 77 = .ok (.iconst 2, 1) := by decide +kernel
theorem dX8_countedOn_78 : decode cX8_countedOn 78 = .ok (.idiv, 1) := by decide +kernel
theorem dX8_countedOn_79 : decode cX8_countedOn 79 = .ok (.ireturn, 1) := by decide +kernel
theorem dX8_countedOn_80 : decode cX8_countedOn 80 = .ok (.iload_n 3, 1) := by decide +kernel
theorem dX8_countedOn_81 : decode cX8_countedOn 81 = .ok (.iconst 5, 1) := by decide +kernel
theorem dX8_countedOn_82 : decode cX8_countedOn 82 = .ok (.idiv, 1) := by decide +kernel
theorem dX8_countedOn_83 : decode cX8_countedOn 83 = .ok (.ireturn, 1) := by decide +kernel
theorem dX8_countedOn_84 : decode cX8_countedOn 84 = .ok (.iload_n 3, 1) := by decide +kernel
theorem dX8_countedOn_85 : decode cX8_countedOn 85 = .ok (.ireturn, 1) := by decide +kernel
theorem dX8_relieved_0 : decode cX8_relieved 0 = .ok (.iload_n 0, 1) := by decide +kernel
theorem dX8_relieved_1 : decode cX8_relieved 1 = .ok (.sipush 1200, 3) := by decide +kernel
theorem dX8_relieved_4 : decode cX8_relieved 4 = .ok (.if_icmp .gt 5, 3) := by decide +kernel
theorem dX8_relieved_7 : decode cX8_relieved 7 = .ok (.iconst 0, 1) := by decide +kernel
theorem dX8_relieved_8 : decode cX8_relieved 8 = .ok (.ireturn, 1) := by decide +kernel
theorem dX8_relieved_9 : decode cX8_relieved 9 = .ok (.iload_n 0, 1) := by decide +kernel
theorem dX8_relieved_10 : decode cX8_relieved 10 = .ok (.sipush 1500, 3) := by decide +kernel
theorem dX8_relieved_13 : decode cX8_relieved 13 = .ok (.if_icmp .gt 13, 3) := by decide +kernel
theorem dX8_relieved_16 : decode cX8_relieved 16 = .ok (.iconst 5, 1) := by decide +kernel
theorem dX8_relieved_17 : decode cX8_relieved 17 = .ok (.iload_n 0, 1) := by decide +kernel
theorem dX8_relieved_18 : decode cX8_relieved 18 = .ok (.sipush 1200, 3) := by decide +kernel
theorem dX8_relieved_21 : decode cX8_relieved 21 = .ok (.isub, 1) := by decide +kernel
theorem dX8_relieved_22 : decode cX8_relieved 22 = .ok (.imul, 1) := by decide +kernel
theorem dX8_relieved_23 : decode cX8_relieved 23 = .ok (.goto 4, 3) := by decide +kernel
theorem dX8_relieved_26 : decode cX8_relieved 26 = .ok (.iload_n 0, 1) := by decide +kernel
theorem dX8_relieved_27 : decode cX8_relieved 27 = .ok (.ireturn, 1) := by decide +kernel
end
section
set_option maxRecDepth 20000 in
theorem ggX8_sumOfYear_X1_nextChange : GoodIn wsX8_sumOfYear wsX1_nextChange := goodIn_r _ [7, 8, 9, 10, 11, 12, 88, 89, 90, 91, 92, 93] (by decide +kernel) (by decide +kernel)
set_option maxRecDepth 20000 in
theorem gX8_sumOfYear_X1_nextChange : GoodIn wsX8_sumOfYear (wsV RX8 254 RX1 yX1_nextChange wsX1_nextChange) := goodIn_app (goodIn_of _ (by decide +kernel)) ggX8_sumOfYear_X1_nextChange
set_option maxRecDepth 20000 in
theorem ggX8_sumOfYear_X3_nextChange : GoodIn wsX8_sumOfYear wsX3_nextChange := goodIn_r _ [17, 18, 19, 10, 11, 12, 94, 95, 96, 97] (by decide +kernel) (by decide +kernel)
set_option maxRecDepth 20000 in
theorem gX8_sumOfYear_X3_nextChange : GoodIn wsX8_sumOfYear (wsV RX8 257 RX3 yX3_nextChange wsX3_nextChange) := goodIn_app (goodIn_of _ (by decide +kernel)) ggX8_sumOfYear_X3_nextChange
set_option maxRecDepth 20000 in
theorem ggX8_sumOfYear_X8_countedOn : GoodIn wsX8_sumOfYear wsX8_countedOn := goodIn_r _ [23, 2, 24, 25, 26, 27, 28, 11, 29, 1, 30, 31, 32, 33, 34, 35, 16, 36, 18, 19, 37, 38, 39, 40, 41, 42, 43, 44, 45, 46, 47, 48, 49, 50, 51, 52, 53, 54, 55, 56, 57, 6, 58, 8, 59, 9, 60, 61, 62, 63, 64, 65, 66, 67, 68, 69, 70, 71, 72, 73, 81, 82, 83, 84, 85, 86, 87, 90, 91, 92, 93, 77, 78, 79, 80, 96, 97, 94, 95, 88, 89, 98, 99, 100, 101] (by decide +kernel) (by decide +kernel)
set_option maxRecDepth 20000 in
theorem gX8_sumOfYear_X8_countedOn : GoodIn wsX8_sumOfYear (wsV RX8 139 RX8 yX8_countedOn wsX8_countedOn) := goodIn_app (goodIn_of _ (by decide +kernel)) ggX8_sumOfYear_X8_countedOn
set_option maxRecDepth 20000 in
theorem ggX8_sumOfYear_X8_relieved : GoodIn wsX8_sumOfYear wsX8_relieved := goodIn_r _ [76] (by decide +kernel) (by decide +kernel)
set_option maxRecDepth 20000 in
theorem gX8_sumOfYear_X8_relieved : GoodIn wsX8_sumOfYear (va_wsS RX8 142 yX8_relieved wsX8_relieved) := goodIn_app (goodIn_of _ (by decide +kernel)) ggX8_sumOfYear_X8_relieved
theorem dX8_sumOfYear_0 : decode cX8_sumOfYear 0 = .ok (.iload_n 2, 1) := by decide +kernel
theorem dX8_sumOfYear_1 : decode cX8_sumOfYear 1 = .ok (.iconst 1, 1) := by decide +kernel
theorem dX8_sumOfYear_2 : decode cX8_sumOfYear 2 = .ok (.iadd, 1) := by decide +kernel
theorem dX8_sumOfYear_3 : decode cX8_sumOfYear 3 = .ok (.sipush 365, 3) := by decide +kernel
theorem dX8_sumOfYear_6 : decode cX8_sumOfYear 6 = .ok (.imul, 1) := by decide +kernel
theorem dX8_sumOfYear_7 : decode cX8_sumOfYear 7 = .ok (.istore_n 3, 1) := by decide +kernel
theorem dX8_sumOfYear_8 : decode cX8_sumOfYear 8 = .ok (.iload_n 2, 1) := by decide +kernel
theorem dX8_sumOfYear_9 : decode cX8_sumOfYear 9 = .ok (.sipush 365, 3) := by decide +kernel
theorem dX8_sumOfYear_12 : decode cX8_sumOfYear 12 = .ok (.imul, 1) := by decide +kernel
theorem dX8_sumOfYear_13 : decode cX8_sumOfYear 13 = .ok (.istore 4, 2) := by decide +kernel
theorem dX8_sumOfYear_15 : decode cX8_sumOfYear 15 = .ok (.lconst 0, 1) := by decide +kernel
theorem dX8_sumOfYear_16 : decode cX8_sumOfYear 16 = .ok (.lstore 5, 2) := by decide +kernel
theorem dX8_sumOfYear_18 : decode cX8_sumOfYear 18 = .ok (.iconst 0, 1) := by decide +kernel
theorem dX8_sumOfYear_19 : decode cX8_sumOfYear 19 = .ok (.istore 7, 2) := by decide +kernel
theorem dX8_sumOfYear_21 : decode cX8_sumOfYear 21 = .ok (.iload 7, 2) := by decide +kernel
theorem dX8_sumOfYear_23 : decode cX8_sumOfYear 23 = .ok (.sipush 365, 3) := by decide +kernel
theorem dX8_sumOfYear_26 : decode cX8_sumOfYear 26 = .ok (.if_icmp .ge 63, 3) := by decide +kernel
theorem dX8_sumOfYear_29 : decode cX8_sumOfYear 29 = .ok (.iload 4, 2) := by decide +kernel
theorem dX8_sumOfYear_31 : decode cX8_sumOfYear 31 = .ok (.iload_n 3, 1) := by decide +kernel
theorem dX8_sumOfYear_32 : decode cX8_sumOfYear 32 = .ok (.if_icmp .ge 57, 3) := by decide +kernel
theorem dX8_sumOfYear_35 : decode cX8_sumOfYear 35 = .ok (.aload_n 0, 1) := by decide +kernel
theorem dX8_sumOfYear_36 : decode cX8_sumOfYear 36 = .ok (.getfield 19, 3) := by decide +kernel
theorem dX8_sumOfYear_39 : decode cX8_sumOfYear 39 = .ok (.iload 4, 2) := by decide +kernel
theorem dX8_sumOfYear_41 : decode cX8_sumOfYear 41 = .ok (.aload_n 1, 1) := by decide +kernel
theorem dX8_sumOfYear_42 : decode cX8_sumOfYear 42 = .ok (.getfield 105, 3) := by decide +kernel
theorem dX8_sumOfYear_45 : decode cX8_sumOfYear 45 = .ok (.iload 4, 2) := by decide +kernel
theorem dX8_sumOfYear_47 : decode cX8_sumOfYear 47 = .ok (.iload_n 3, 1) := by decide +kernel
theorem dX8_sumOfYear_48 : decode cX8_sumOfYear 48 = .ok (.invokevirtual 254, 3) := by decide +kernel
theorem dX8_sumOfYear_51 : decode cX8_sumOfYear 51 = .ok (.invokevirtual 257, 3) := by decide +kernel
theorem dX8_sumOfYear_54 : decode cX8_sumOfYear 54 = .ok (.istore 8, 2) := by decide +kernel
theorem dX8_sumOfYear_56 : decode cX8_sumOfYear 56 = .ok (.lload 5, 2) := by decide +kernel
theorem dX8_sumOfYear_58 : decode cX8_sumOfYear 58 = .ok (.iload 8, 2) := by decide +kernel
theorem dX8_sumOfYear_60 : decode cX8_sumOfYear 60 = .ok (.iload 4, 2) := by decide +kernel
theorem dX8_sumOfYear_62 : decode cX8_sumOfYear 62 = .ok (.isub, 1) := by decide +kernel
theorem dX8_sumOfYear_63 : decode cX8_sumOfYear 63 = .ok (.i2l, 1) := by decide +kernel
theorem dX8_sumOfYear_64 : decode cX8_sumOfYear 64 = .ok (.aload_n 0, 1) := by decide +kernel
theorem dX8_sumOfYear_65 : decode cX8_sumOfYear 65 = .ok (.aload_n 1, 1) := by decide +kernel
theorem dX8_sumOfYear_66 : decode cX8_sumOfYear 66 = .ok (.iload 4, 2) := by decide +kernel
theorem dX8_sumOfYear_68 : decode cX8_sumOfYear 68 = .ok (.invokevirtual 139, 3) := by decide +kernel
theorem dX8_sumOfYear_71 : decode cX8_sumOfYear 71 = .ok (.invokestatic 142, 3) := by decide +kernel
theorem dX8_sumOfYear_74 : decode cX8_sumOfYear 74 = .ok (.i2l, 1) := by decide +kernel
theorem dX8_sumOfYear_75 : decode cX8_sumOfYear 75 = .ok (.lmul, 1) := by decide +kernel
theorem dX8_sumOfYear_76 : decode cX8_sumOfYear 76 = .ok (.ladd, 1) := by decide +kernel
theorem dX8_sumOfYear_77 : decode cX8_sumOfYear 77 = .ok (.lstore 5, 2) := by decide +kernel
theorem dX8_sumOfYear_79 : decode cX8_sumOfYear 79 = .ok (.iload 8, 2) := by decide +kernel
theorem dX8_sumOfYear_81 : decode cX8_sumOfYear 81 = .ok (.istore 4, 2) := by decide +kernel
theorem dX8_sumOfYear_83 : decode cX8_sumOfYear 83 = .ok (.iinc 7 1, 3) := by decide +kernel
theorem dX8_sumOfYear_86 : decode cX8_sumOfYear 86 = .ok (.goto (-65), 3) := by decide +kernel
theorem dX8_sumOfYear_89 : decode cX8_sumOfYear 89 = .ok (.lload 5, 2) := by decide +kernel
theorem dX8_sumOfYear_91 : decode cX8_sumOfYear 91 = .ok (.lreturn, 1) := by decide +kernel
theorem dX8_billFor_0 : decode cX8_billFor 0 = .ok (.lload_n 0, 1) := by decide +kernel
theorem dX8_billFor_1 : decode cX8_billFor 1 = .ok (.iload_n 2, 1) := by decide +kernel
theorem dX8_billFor_2 : decode cX8_billFor 2 = .ok (.i2l, 1) := by decide +kernel
theorem dX8_billFor_3 : decode cX8_billFor 3 = .ok (.lmul, 1) := by decide +kernel
theorem dX8_billFor_4 : decode cX8_billFor 4 = .ok (.ldc2_w 258, 3) := by decide +kernel
theorem dX8_billFor_7 : decode cX8_billFor 7 = .ok (.ldiv, 1) := by decide +kernel
theorem dX8_billFor_8 : decode cX8_billFor 8 = .ok (.l2i, 1) := by decide +kernel
theorem dX8_billFor_9 : decode cX8_billFor 9 = .ok (.ireturn, 1) := by decide +kernel
set_option maxRecDepth 20000 in
theorem ggX8_readYearSums_X5_at : GoodIn wsX8_readYearSums wsX5_at := goodIn_r _ [7, 8, 93, 94] (by decide +kernel) (by decide +kernel)
set_option maxRecDepth 20000 in
theorem gX8_readYearSums_X5_at : GoodIn wsX8_readYearSums (wsV RX8 47 RX5 yX5_at wsX5_at) := goodIn_app (goodIn_of _ (by decide +kernel)) ggX8_readYearSums_X5_at
set_option maxRecDepth 20000 in
theorem ggX8_readYearSums_X8_sumOfYear : GoodIn wsX8_readYearSums wsX8_sumOfYear := goodIn_r _ [13, 14, 15, 16, 17, 18, 19, 20, 21, 22, 23, 12, 24, 25, 26, 27, 28, 29, 30, 31, 32, 33, 34, 35, 36, 37, 38, 39, 40, 41, 42, 43, 44, 45, 46, 47, 48, 49, 50, 51, 52, 53, 54, 55, 56, 57, 58, 59, 60, 61, 62, 63, 64, 65, 66, 67, 68, 69, 70, 71, 72, 73, 74, 75, 76, 77, 78, 79, 80, 81, 82, 83, 84, 85, 86, 87, 88, 89, 90, 91, 92, 95, 96, 97, 98, 99, 100, 101, 102, 103, 104, 105, 106, 107, 108, 109, 110, 111, 112, 113, 114, 115] (by decide +kernel) (by decide +kernel)
set_option maxRecDepth 20000 in
theorem gX8_readYearSums_X8_sumOfYear : GoodIn wsX8_readYearSums (wsV RX8 150 RX8 yX8_sumOfYear wsX8_sumOfYear) := goodIn_app (goodIn_of _ (by decide +kernel)) ggX8_readYearSums_X8_sumOfYear
theorem dX8_readYearSums_0 : decode cX8_readYearSums 0 = .ok (.iconst 0, 1) := by decide +kernel
theorem dX8_readYearSums_1 : decode cX8_readYearSums 1 = .ok (.istore_n 2, 1) := by decide +kernel
theorem dX8_readYearSums_2 : decode cX8_readYearSums 2 = .ok (.iload_n 2, 1) := by decide +kernel
theorem dX8_readYearSums_3 : decode cX8_readYearSums 3 = .ok (.aload_n 0, 1) := by decide +kernel
theorem dX8_readYearSums_4 : decode cX8_readYearSums 4 = .ok (.getfield 23, 3) := by decide +kernel
theorem dX8_readYearSums_7 : decode cX8_readYearSums 7 = .ok (.arraylength, 1) := by decide +kernel
theorem dX8_readYearSums_8 : decode cX8_readYearSums 8 = .ok (.if_icmp .ge 38, 3) := by decide +kernel
theorem dX8_readYearSums_11 : decode cX8_readYearSums 11 = .ok (.aload_n 0, 1) := by decide +kernel
theorem dX8_readYearSums_12 : decode cX8_readYearSums 12 = .ok (.getfield 12, 3) := by decide +kernel
theorem dX8_readYearSums_15 : decode cX8_readYearSums 15 = .ok (.iload_n 2, 1) := by decide +kernel
theorem dX8_readYearSums_16 : decode cX8_readYearSums 16 = .ok (.invokevirtual 47, 3) := by decide +kernel
theorem dX8_readYearSums_19 : decode cX8_readYearSums 19 = .ok (.astore_n 3, 1) := by decide +kernel
theorem dX8_readYearSums_20 : decode cX8_readYearSums 20 = .ok (.aload_n 0, 1) := by decide +kernel
theorem dX8_readYearSums_21 : decode cX8_readYearSums 21 = .ok (.getfield 23, 3) := by decide +kernel
theorem dX8_readYearSums_24 : decode cX8_readYearSums 24 = .ok (.iload_n 2, 1) := by decide +kernel
theorem dX8_readYearSums_25 : decode cX8_readYearSums 25 = .ok (.aload_n 3, 1) := by decide +kernel
theorem dX8_readYearSums_26 : decode cX8_readYearSums 26 = .ok (.ifnonnull 7, 3) := by decide +kernel
theorem dX8_readYearSums_29 : decode cX8_readYearSums 29 = .ok (.lconst 0, 1) := by decide +kernel
theorem dX8_readYearSums_30 : decode cX8_readYearSums 30 = .ok (.goto 9, 3) := by decide +kernel
theorem dX8_readYearSums_33 : decode cX8_readYearSums 33 = .ok (.aload_n 0, 1) := by decide +kernel
theorem dX8_readYearSums_34 : decode cX8_readYearSums 34 = .ok (.aload_n 3, 1) := by decide +kernel
theorem dX8_readYearSums_35 : decode cX8_readYearSums 35 = .ok (.iload_n 1, 1) := by decide +kernel
theorem dX8_readYearSums_36 : decode cX8_readYearSums 36 = .ok (.invokevirtual 150, 3) := by decide +kernel
theorem dX8_readYearSums_39 : decode cX8_readYearSums 39 = .ok (.lastore, 1) := by decide +kernel
theorem dX8_readYearSums_40 : decode cX8_readYearSums 40 = .ok (.iinc 2 1, 3) := by decide +kernel
theorem dX8_readYearSums_43 : decode cX8_readYearSums 43 = .ok (.goto (-41), 3) := by decide +kernel
theorem dX8_readYearSums_46 : decode cX8_readYearSums 46 = .ok (.return_, 1) := by decide +kernel
set_option maxRecDepth 20000 in
theorem ggX8_billsTogether_X8_billFor : GoodIn wsX8_billsTogether wsX8_billFor := goodIn_r _ [5, 6] (by decide +kernel) (by decide +kernel)
set_option maxRecDepth 20000 in
theorem gX8_billsTogether_X8_billFor : GoodIn wsX8_billsTogether (va_wsS RX8 154 yX8_billFor wsX8_billFor) := goodIn_app (goodIn_of _ (by decide +kernel)) ggX8_billsTogether_X8_billFor
theorem dX8_billsTogether_0 : decode cX8_billsTogether 0 = .ok (.lconst 0, 1) := by decide +kernel
theorem dX8_billsTogether_1 : decode cX8_billsTogether 1 = .ok (.lstore_n 2, 1) := by decide +kernel
theorem dX8_billsTogether_2 : decode cX8_billsTogether 2 = .ok (.iconst 0, 1) := by decide +kernel
theorem dX8_billsTogether_3 : decode cX8_billsTogether 3 = .ok (.istore 4, 2) := by decide +kernel
theorem dX8_billsTogether_5 : decode cX8_billsTogether 5 = .ok (.iload 4, 2) := by decide +kernel
theorem dX8_billsTogether_7 : decode cX8_billsTogether 7 = .ok (.aload_n 0, 1) := by decide +kernel
theorem dX8_billsTogether_8 : decode cX8_billsTogether 8 = .ok (.getfield 23, 3) := by decide +kernel
theorem dX8_billsTogether_11 : decode cX8_billsTogether 11 = .ok (.arraylength, 1) := by decide +kernel
theorem dX8_billsTogether_12 : decode cX8_billsTogether 12 = .ok (.if_icmp .ge 24, 3) := by decide +kernel
theorem dX8_billsTogether_15 : decode cX8_billsTogether 15 = .ok (.lload_n 2, 1) := by decide +kernel
theorem dX8_billsTogether_16 : decode cX8_billsTogether 16 = .ok (.aload_n 0, 1) := by decide +kernel
theorem dX8_billsTogether_17 : decode cX8_billsTogether 17 = .ok (.getfield 23, 3) := by decide +kernel
theorem dX8_billsTogether_20 : decode cX8_billsTogether 20 = .ok (.iload 4, 2) := by decide +kernel
theorem dX8_billsTogether_22 : decode cX8_billsTogether 22 = .ok (.laload, 1) := by decide +kernel
theorem dX8_billsTogether_23 : decode cX8_billsTogether 23 = .ok (.iload_n 1, 1) := by decide +kernel
theorem dX8_billsTogether_24 : decode cX8_billsTogether 24 = .ok (.invokestatic 154, 3) := by decide +kernel
theorem dX8_billsTogether_27 : decode cX8_billsTogether 27 = .ok (.i2l, 1) := by decide +kernel
theorem dX8_billsTogether_28 : decode cX8_billsTogether 28 = .ok (.ladd, 1) := by decide +kernel
theorem dX8_billsTogether_29 : decode cX8_billsTogether 29 = .ok (.lstore_n 2, 1) := by decide +kernel
theorem dX8_billsTogether_30 : decode cX8_billsTogether 30 = .ok (.iinc 4 1, 3) := by decide +kernel
theorem dX8_billsTogether_33 : decode cX8_billsTogether 33 = .ok (.goto (-28), 3) := by decide +kernel
theorem dX8_billsTogether_36 : decode cX8_billsTogether 36 = .ok (.lload_n 2, 1) := by decide +kernel
theorem dX8_billsTogether_37 : decode cX8_billsTogether 37 = .ok (.lreturn, 1) := by decide +kernel
set_option maxRecDepth 20000 in
theorem ggX8_leastPoundage_X8_billsTogether : GoodIn wsX8_leastPoundage wsX8_billsTogether := goodIn_r _ [5, 6, 7, 8, 4, 9, 10, 11, 12, 13, 14] (by decide +kernel) (by decide +kernel)
set_option maxRecDepth 20000 in
theorem gX8_leastPoundage_X8_billsTogether : GoodIn wsX8_leastPoundage (wsV RX8 260 RX8 yX8_billsTogether wsX8_billsTogether) := goodIn_app (goodIn_of _ (by decide +kernel)) ggX8_leastPoundage_X8_billsTogether
theorem dX8_leastPoundage_0 : decode cX8_leastPoundage 0 = .ok (.aload_n 0, 1) := by decide +kernel
theorem dX8_leastPoundage_1 : decode cX8_leastPoundage 1 = .ok (.sipush 3000, 3) := by decide +kernel
theorem dX8_leastPoundage_4 : decode cX8_leastPoundage 4 = .ok (.invokevirtual 260, 3) := by decide +kernel
theorem dX8_leastPoundage_7 : decode cX8_leastPoundage 7 = .ok (.iload_n 1, 1) := by decide +kernel
theorem dX8_leastPoundage_8 : decode cX8_leastPoundage 8 = .ok (.i2l, 1) := by decide +kernel
theorem dX8_leastPoundage_9 : decode cX8_leastPoundage 9 = .ok (.lcmp, 1) := by decide +kernel
theorem dX8_leastPoundage_10 : decode cX8_leastPoundage 10 = .ok (.ifCond .ge 6, 3) := by decide +kernel
theorem dX8_leastPoundage_13 : decode cX8_leastPoundage 13 = .ok (.bipush (-4), 2) := by decide +kernel
theorem dX8_leastPoundage_15 : decode cX8_leastPoundage 15 = .ok (.ireturn, 1) := by decide +kernel
theorem dX8_leastPoundage_16 : decode cX8_leastPoundage 16 = .ok (.iconst 0, 1) := by decide +kernel
theorem dX8_leastPoundage_17 : decode cX8_leastPoundage 17 = .ok (.istore_n 2, 1) := by decide +kernel
theorem dX8_leastPoundage_18 : decode cX8_leastPoundage 18 = .ok (.sipush 2048, 3) := by decide +kernel
theorem dX8_leastPoundage_21 : decode cX8_leastPoundage 21 = .ok (.istore_n 3, 1) := by decide +kernel
theorem dX8_leastPoundage_22 : decode cX8_leastPoundage 22 = .ok (.iload_n 3, 1) := by decide +kernel
theorem dX8_leastPoundage_23 : decode cX8_leastPoundage 23 = .ok (.ifCond .le 38, 3) := by decide +kernel
theorem dX8_leastPoundage_26 : decode cX8_leastPoundage 26 = .ok (.iload_n 2, 1) := by decide +kernel
theorem dX8_leastPoundage_27 : decode cX8_leastPoundage 27 = .ok (.iload_n 3, 1) := by decide +kernel
theorem dX8_leastPoundage_28 : decode cX8_leastPoundage 28 = .ok (.iadd, 1) := by decide +kernel
theorem dX8_leastPoundage_29 : decode cX8_leastPoundage 29 = .ok (.sipush 3000, 3) := by decide +kernel
theorem dX8_leastPoundage_32 : decode cX8_leastPoundage 32 = .ok (.if_icmp .gt 22, 3) := by decide +kernel
theorem dX8_leastPoundage_35 : decode cX8_leastPoundage 35 = .ok (.aload_n 0, 1) := by decide +kernel
theorem dX8_leastPoundage_36 : decode cX8_leastPoundage 36 = .ok (.iload_n 2, 1) := by decide +kernel
theorem dX8_leastPoundage_37 : decode cX8_leastPoundage 37 = .ok (.iload_n 3, 1) := by decide +kernel
theorem dX8_leastPoundage_38 : decode cX8_leastPoundage 38 = .ok (.iadd, 1) := by decide +kernel
theorem dX8_leastPoundage_39 : decode cX8_leastPoundage 39 = .ok (.iconst 1, 1) := by decide +kernel
theorem dX8_leastPoundage_40 : decode cX8_leastPoundage 40 = .ok (.isub, 1) := by decide +kernel
theorem dX8_leastPoundage_41 : decode cX8_leastPoundage 41 = .ok (.invokevirtual 260, 3) := by decide +kernel
theorem dX8_leastPoundage_44 : decode cX8_leastPoundage 44 = .ok (.iload_n 1, 1) := by decide +kernel
theorem dX8_leastPoundage_45 : decode cX8_leastPoundage 45 = .ok (.i2l, 1) := by decide +kernel
theorem dX8_leastPoundage_46 : decode cX8_leastPoundage 46 = .ok (.lcmp, 1) := by decide +kernel
theorem dX8_leastPoundage_47 : decode cX8_leastPoundage 47 = .ok (.ifCond .ge 7, 3) := by decide +kernel
theorem dX8_leastPoundage_50 : decode cX8_leastPoundage 50 = .ok (.iload_n 2, 1) := by decide +kernel
theorem dX8_leastPoundage_51 : decode cX8_leastPoundage 51 = .ok (.iload_n 3, 1) := by decide +kernel
theorem dX8_leastPoundage_52 : decode cX8_leastPoundage 52 = .ok (.iadd, 1) := by decide +kernel
theorem dX8_leastPoundage_53 : decode cX8_leastPoundage 53 = .ok (.istore_n 2, 1) := by decide +kernel
theorem dX8_leastPoundage_54 : decode cX8_leastPoundage 54 = .ok (.iload_n 3, 1) := by decide +kernel
theorem dX8_leastPoundage_55 : decode cX8_leastPoundage 55 = .ok (.iconst 2, 1) := by decide +kernel
theorem dX8_leastPoundage_56 : decode cX8_leastPoundage 56 = .ok (.idiv, 1) := by decide +kernel
theorem dX8_leastPoundage_57 : decode cX8_leastPoundage 57 = .ok (.istore_n 3, 1) := by decide +kernel
theorem dX8_leastPoundage_58 : decode cX8_leastPoundage 58 = .ok (.goto (-36), 3) := by decide +kernel
theorem dX8_leastPoundage_61 : decode cX8_leastPoundage 61 = .ok (.iload_n 2, 1) := by decide +kernel
theorem dX8_leastPoundage_62 : decode cX8_leastPoundage 62 = .ok (.ireturn, 1) := by decide +kernel
theorem dX8_bookOf_0 : decode cX8_bookOf 0 = .ok (.iload_n 1, 1) := by decide +kernel
theorem dX8_bookOf_1 : decode cX8_bookOf 1 = .ok (.ifCond .lt 21, 3) := by decide +kernel
theorem dX8_bookOf_4 : decode cX8_bookOf 4 = .ok (.iload_n 1, 1) := by decide +kernel
theorem dX8_bookOf_5 : decode cX8_bookOf 5 = .ok (.aload_n 0, 1) := by decide +kernel
theorem dX8_bookOf_6 : decode cX8_bookOf 6 = .ok (.getfield 29, 3) := by decide +kernel
theorem dX8_bookOf_9 : decode cX8_bookOf 9 = .ok (.arraylength, 1) := by decide +kernel
theorem dX8_bookOf_10 : decode cX8_bookOf 10 = .ok (.if_icmp .ge 12, 3) := by decide +kernel
theorem dX8_bookOf_13 : decode cX8_bookOf 13 = .ok (.aload_n 0, 1) := by decide +kernel
theorem dX8_bookOf_14 : decode cX8_bookOf 14 = .ok (.getfield 29, 3) := by decide +kernel
theorem dX8_bookOf_17 : decode cX8_bookOf 17 = .ok (.iload_n 1, 1) := by decide +kernel
theorem dX8_bookOf_18 : decode cX8_bookOf 18 = .ok (.aaload, 1) := by decide +kernel
theorem dX8_bookOf_19 : decode cX8_bookOf 19 = .ok (.goto 4, 3) := by decide +kernel
theorem dX8_bookOf_22 : decode cX8_bookOf 22 = .ok (.aconst_null, 1) := by decide +kernel
theorem dX8_bookOf_23 : decode cX8_bookOf 23 = .ok (.areturn, 1) := by decide +kernel
set_option maxRecDepth 20000 in
theorem ggX8_openOf_X8_bookOf : GoodIn wsX8_openOf wsX8_bookOf := goodIn_r _ [5, 6, 18, 19, 20, 21] (by decide +kernel) (by decide +kernel)
set_option maxRecDepth 20000 in
theorem gX8_openOf_X8_bookOf : GoodIn wsX8_openOf (wsV RX8 166 RX8 yX8_bookOf wsX8_bookOf) := goodIn_app (goodIn_of _ (by decide +kernel)) ggX8_openOf_X8_bookOf
set_option maxRecDepth 20000 in
theorem ggX8_openOf_X7_billedTo : GoodIn wsX8_openOf wsX7_billedTo := goodIn_r _ [11, 12, 22, 23, 24, 25, 26] (by decide +kernel) (by decide +kernel)
set_option maxRecDepth 20000 in
theorem gX8_openOf_X7_billedTo : GoodIn wsX8_openOf (wsV RX8 192 RX7 yX7_billedTo wsX7_billedTo) := goodIn_app (goodIn_of _ (by decide +kernel)) ggX8_openOf_X7_billedTo
set_option maxRecDepth 20000 in
theorem ggX8_openOf_X7_paidBy : GoodIn wsX8_openOf wsX7_paidBy := goodIn_r _ [16, 17, 22, 23, 24, 25, 26] (by decide +kernel) (by decide +kernel)
set_option maxRecDepth 20000 in
theorem gX8_openOf_X7_paidBy : GoodIn wsX8_openOf (wsV RX8 186 RX7 yX7_paidBy wsX7_paidBy) := goodIn_app (goodIn_of _ (by decide +kernel)) ggX8_openOf_X7_paidBy
theorem dX8_openOf_0 : decode cX8_openOf 0 = .ok (.aload_n 0, 1) := by decide +kernel
theorem dX8_openOf_1 : decode cX8_openOf 1 = .ok (.iload_n 2, 1) := by decide +kernel
theorem dX8_openOf_2 : decode cX8_openOf 2 = .ok (.invokevirtual 166, 3) := by decide +kernel
theorem dX8_openOf_5 : decode cX8_openOf 5 = .ok (.astore_n 3, 1) := by decide +kernel
theorem dX8_openOf_6 : decode cX8_openOf 6 = .ok (.aload_n 3, 1) := by decide +kernel
theorem dX8_openOf_7 : decode cX8_openOf 7 = .ok (.ifnull 13, 3) := by decide +kernel
theorem dX8_openOf_10 : decode cX8_openOf 10 = .ok (.aload_n 3, 1) := by decide +kernel
theorem dX8_openOf_11 : decode cX8_openOf 11 = .ok (.iload_n 1, 1) := by decide +kernel
theorem dX8_openOf_12 : decode cX8_openOf 12 = .ok (.invokevirtual 192, 3) := by decide +kernel
theorem dX8_openOf_15 : decode cX8_openOf 15 = .ok (.bipush (-4), 2) := by decide +kernel
theorem dX8_openOf_17 : decode cX8_openOf 17 = .ok (.if_icmp .ne 5, 3) := by decide +kernel
theorem dX8_openOf_20 : decode cX8_openOf 20 = .ok (.iconst 0, 1) := by decide +kernel
theorem dX8_openOf_21 : decode cX8_openOf 21 = .ok (.ireturn, 1) := by decide +kernel
theorem dX8_openOf_22 : decode cX8_openOf 22 = .ok (.aload_n 3, 1) := by decide +kernel
theorem dX8_openOf_23 : decode cX8_openOf 23 = .ok (.iload_n 1, 1) := by decide +kernel
theorem dX8_openOf_24 : decode cX8_openOf 24 = .ok (.invokevirtual 192, 3) := by decide +kernel
theorem dX8_openOf_27 : decode cX8_openOf 27 = .ok (.aload_n 3, 1) := by decide +kernel
theorem dX8_openOf_28 : decode cX8_openOf 28 = .ok (.iload_n 1, 1) := by decide +kernel
theorem dX8_openOf_29 : decode cX8_openOf 29 = .ok (.invokevirtual 186, 3) := by decide +kernel
theorem dX8_openOf_32 : decode cX8_openOf 32 = .ok (.isub, 1) := by decide +kernel
theorem dX8_openOf_33 : decode cX8_openOf 33 = .ok (.ireturn, 1) := by decide +kernel
set_option maxRecDepth 20000 in
theorem ggX8_billedIn_X5_isIn : GoodIn wsX8_billedIn wsX5_isIn := goodIn_r _ [10, 11, 12, 13, 14, 9, 15, 16, 29, 30, 31, 32, 33, 34, 35, 27, 28] (by decide +kernel) (by decide +kernel)
set_option maxRecDepth 20000 in
theorem gX8_billedIn_X5_isIn : GoodIn wsX8_billedIn (wsV RX8 263 RX5 yX5_isIn wsX5_isIn) := goodIn_app (goodIn_of _ (by decide +kernel)) ggX8_billedIn_X5_isIn
set_option maxRecDepth 20000 in
theorem ggX8_billedIn_X7_billedTo : GoodIn wsX8_billedIn wsX7_billedTo := goodIn_r _ [21, 22, 36, 37, 38, 39, 40] (by decide +kernel) (by decide +kernel)
set_option maxRecDepth 20000 in
theorem gX8_billedIn_X7_billedTo : GoodIn wsX8_billedIn (wsV RX8 192 RX7 yX7_billedTo wsX7_billedTo) := goodIn_app (goodIn_of _ (by decide +kernel)) ggX8_billedIn_X7_billedTo
theorem dX8_billedIn_0 : decode cX8_billedIn 0 = .ok (.iconst 0, 1) := by decide +kernel
theorem dX8_billedIn_1 : decode cX8_billedIn 1 = .ok (.istore_n 3, 1) := by decide +kernel
theorem dX8_billedIn_2 : decode cX8_billedIn 2 = .ok (.iconst 0, 1) := by decide +kernel
theorem dX8_billedIn_3 : decode cX8_billedIn 3 = .ok (.istore 4, 2) := by decide +kernel
theorem dX8_billedIn_5 : decode cX8_billedIn 5 = .ok (.iload 4, 2) := by decide +kernel
theorem dX8_billedIn_7 : decode cX8_billedIn 7 = .ok (.aload_n 0, 1) := by decide +kernel
theorem dX8_billedIn_8 : decode cX8_billedIn 8 = .ok (.getfield 12, 3) := by decide +kernel
theorem dX8_billedIn_11 : decode cX8_billedIn 11 = .ok (.getfield 180, 3) := by decide +kernel
theorem dX8_billedIn_14 : decode cX8_billedIn 14 = .ok (.if_icmp .ge 35, 3) := by decide +kernel
theorem dX8_billedIn_17 : decode cX8_billedIn 17 = .ok (.aload_n 0, 1) := by decide +kernel
theorem dX8_billedIn_18 : decode cX8_billedIn 18 = .ok (.getfield 12, 3) := by decide +kernel
theorem dX8_billedIn_21 : decode cX8_billedIn 21 = .ok (.iload 4, 2) := by decide +kernel
theorem dX8_billedIn_23 : decode cX8_billedIn 23 = .ok (.iload_n 1, 1) := by decide +kernel
theorem dX8_billedIn_24 : decode cX8_billedIn 24 = .ok (.invokevirtual 263, 3) := by decide +kernel
theorem dX8_billedIn_27 : decode cX8_billedIn 27 = .ok (.ifCond .eq 16, 3) := by decide +kernel
theorem dX8_billedIn_30 : decode cX8_billedIn 30 = .ok (.iload_n 3, 1) := by decide +kernel
theorem dX8_billedIn_31 : decode cX8_billedIn 31 = .ok (.iconst 0, 1) := by decide +kernel
theorem dX8_billedIn_32 : decode cX8_billedIn 32 = .ok (.aload_n 2, 1) := by decide +kernel
theorem dX8_billedIn_33 : decode cX8_billedIn 33 = .ok (.iload 4, 2) := by decide +kernel
theorem dX8_billedIn_35 : decode cX8_billedIn 35 = .ok (.invokevirtual 192, 3) := by decide +kernel
theorem dX8_billedIn_38 : decode cX8_billedIn 38 = .ok (.invokestatic 199, 3) := by decide +kernel
theorem dX8_billedIn_41 : decode cX8_billedIn 41 = .ok (.iadd, 1) := by decide +kernel
theorem dX8_billedIn_42 : decode cX8_billedIn 42 = .ok (.istore_n 3, 1) := by decide +kernel
theorem dX8_billedIn_43 : decode cX8_billedIn 43 = .ok (.iinc 4 1, 3) := by decide +kernel
theorem dX8_billedIn_46 : decode cX8_billedIn 46 = .ok (.goto (-41), 3) := by decide +kernel
theorem dX8_billedIn_49 : decode cX8_billedIn 49 = .ok (.iload_n 3, 1) := by decide +kernel
theorem dX8_billedIn_50 : decode cX8_billedIn 50 = .ok (.ireturn, 1) := by decide +kernel
set_option maxRecDepth 20000 in
theorem ggX8_paidIn_X5_isIn : GoodIn wsX8_paidIn wsX5_isIn := goodIn_r _ [6, 7, 8, 9, 10, 5, 11, 12, 25, 26, 27, 28, 29, 30, 31, 23, 24] (by decide +kernel) (by decide +kernel)
set_option maxRecDepth 20000 in
theorem gX8_paidIn_X5_isIn : GoodIn wsX8_paidIn (wsV RX8 263 RX5 yX5_isIn wsX5_isIn) := goodIn_app (goodIn_of _ (by decide +kernel)) ggX8_paidIn_X5_isIn
set_option maxRecDepth 20000 in
theorem ggX8_paidIn_X7_paidBy : GoodIn wsX8_paidIn wsX7_paidBy := goodIn_r _ [17, 18, 32, 33, 34, 35, 36] (by decide +kernel) (by decide +kernel)
set_option maxRecDepth 20000 in
theorem gX8_paidIn_X7_paidBy : GoodIn wsX8_paidIn (wsV RX8 186 RX7 yX7_paidBy wsX7_paidBy) := goodIn_app (goodIn_of _ (by decide +kernel)) ggX8_paidIn_X7_paidBy
theorem dX8_paidIn_0 : decode cX8_paidIn 0 = .ok (.iconst 0, 1) := by decide +kernel
theorem dX8_paidIn_1 : decode cX8_paidIn 1 = .ok (.istore_n 3, 1) := by decide +kernel
theorem dX8_paidIn_2 : decode cX8_paidIn 2 = .ok (.iconst 0, 1) := by decide +kernel
theorem dX8_paidIn_3 : decode cX8_paidIn 3 = .ok (.istore 4, 2) := by decide +kernel
theorem dX8_paidIn_5 : decode cX8_paidIn 5 = .ok (.iload 4, 2) := by decide +kernel
theorem dX8_paidIn_7 : decode cX8_paidIn 7 = .ok (.aload_n 0, 1) := by decide +kernel
theorem dX8_paidIn_8 : decode cX8_paidIn 8 = .ok (.getfield 12, 3) := by decide +kernel
theorem dX8_paidIn_11 : decode cX8_paidIn 11 = .ok (.getfield 180, 3) := by decide +kernel
theorem dX8_paidIn_14 : decode cX8_paidIn 14 = .ok (.if_icmp .ge 31, 3) := by decide +kernel
theorem dX8_paidIn_17 : decode cX8_paidIn 17 = .ok (.aload_n 0, 1) := by decide +kernel
theorem dX8_paidIn_18 : decode cX8_paidIn 18 = .ok (.getfield 12, 3) := by decide +kernel
theorem dX8_paidIn_21 : decode cX8_paidIn 21 = .ok (.iload 4, 2) := by decide +kernel
theorem dX8_paidIn_23 : decode cX8_paidIn 23 = .ok (.iload_n 1, 1) := by decide +kernel
theorem dX8_paidIn_24 : decode cX8_paidIn 24 = .ok (.invokevirtual 263, 3) := by decide +kernel
theorem dX8_paidIn_27 : decode cX8_paidIn 27 = .ok (.ifCond .eq 12, 3) := by decide +kernel
theorem dX8_paidIn_30 : decode cX8_paidIn 30 = .ok (.iload_n 3, 1) := by decide +kernel
theorem dX8_paidIn_31 : decode cX8_paidIn 31 = .ok (.aload_n 2, 1) := by decide +kernel
theorem dX8_paidIn_32 : decode cX8_paidIn 32 = .ok (.iload 4, 2) := by decide +kernel
theorem dX8_paidIn_34 : decode cX8_paidIn 34 = .ok (.invokevirtual 186, 3) := by decide +kernel
theorem dX8_paidIn_37 : decode cX8_paidIn 37 = .ok (.iadd, 1) := by decide +kernel
theorem dX8_paidIn_38 : decode cX8_paidIn 38 = .ok (.istore_n 3, 1) := by decide +kernel
theorem dX8_paidIn_39 : decode cX8_paidIn 39 = .ok (.iinc 4 1, 3) := by decide +kernel
theorem dX8_paidIn_42 : decode cX8_paidIn 42 = .ok (.goto (-37), 3) := by decide +kernel
theorem dX8_paidIn_45 : decode cX8_paidIn 45 = .ok (.iload_n 3, 1) := by decide +kernel
theorem dX8_paidIn_46 : decode cX8_paidIn 46 = .ok (.ireturn, 1) := by decide +kernel
theorem dX8_struckYears_0 : decode cX8_struckYears 0 = .ok (.iconst 0, 1) := by decide +kernel
theorem dX8_struckYears_1 : decode cX8_struckYears 1 = .ok (.istore_n 1, 1) := by decide +kernel
theorem dX8_struckYears_2 : decode cX8_struckYears 2 = .ok (.iconst 0, 1) := by decide +kernel
theorem dX8_struckYears_3 : decode cX8_struckYears 3 = .ok (.istore_n 2, 1) := by decide +kernel
theorem dX8_struckYears_4 : decode cX8_struckYears 4 = .ok (.iload_n 2, 1) := by decide +kernel
theorem dX8_struckYears_5 : decode cX8_struckYears 5 = .ok (.aload_n 0, 1) := by decide +kernel
theorem dX8_struckYears_6 : decode cX8_struckYears 6 = .ok (.getfield 29, 3) := by decide +kernel
theorem dX8_struckYears_9 : decode cX8_struckYears 9 = .ok (.arraylength, 1) := by decide +kernel
theorem dX8_struckYears_10 : decode cX8_struckYears 10 = .ok (.if_icmp .ge 30, 3) := by decide +kernel
theorem dX8_struckYears_13 : decode cX8_struckYears 13 = .ok (.aload_n 0, 1) := by decide +kernel
theorem dX8_struckYears_14 : decode cX8_struckYears 14 = .ok (.getfield 29, 3) := by decide +kernel
theorem dX8_struckYears_17 : decode cX8_struckYears 17 = .ok (.iload_n 2, 1) := by decide +kernel
theorem dX8_struckYears_18 : decode cX8_struckYears 18 = .ok (.aaload, 1) := by decide +kernel
theorem dX8_struckYears_19 : decode cX8_struckYears 19 = .ok (.astore_n 3, 1) := by decide +kernel
theorem dX8_struckYears_20 : decode cX8_struckYears 20 = .ok (.aload_n 3, 1) := by decide +kernel
theorem dX8_struckYears_21 : decode cX8_struckYears 21 = .ok (.ifnull 13, 3) := by decide +kernel
theorem dX8_struckYears_24 : decode cX8_struckYears 24 = .ok (.aload_n 3, 1) := by decide +kernel
theorem dX8_struckYears_25 : decode cX8_struckYears 25 = .ok (.getfield 170, 3) := by decide +kernel
theorem dX8_struckYears_28 : decode cX8_struckYears 28 = .ok (.ifCond .eq 6, 3) := by decide +kernel
theorem dX8_struckYears_31 : decode cX8_struckYears 31 = .ok (.iinc 1 1, 3) := by decide +kernel
theorem dX8_struckYears_34 : decode cX8_struckYears 34 = .ok (.iinc 2 1, 3) := by decide +kernel
theorem dX8_struckYears_37 : decode cX8_struckYears 37 = .ok (.goto (-33), 3) := by decide +kernel
theorem dX8_struckYears_40 : decode cX8_struckYears 40 = .ok (.iload_n 1, 1) := by decide +kernel
theorem dX8_struckYears_41 : decode cX8_struckYears 41 = .ok (.ireturn, 1) := by decide +kernel
theorem dX9_init_0 : decode cX9_init 0 = .ok (.aload_n 0, 1) := by decide +kernel
theorem dX9_init_1 : decode cX9_init 1 = .ok (.invokespecial 1, 3) := by decide +kernel
theorem dX9_init_4 : decode cX9_init 4 = .ok (.aload_n 0, 1) := by decide +kernel
theorem dX9_init_5 : decode cX9_init 5 = .ok (.bipush 40, 2) := by decide +kernel
theorem dX9_init_7 : decode cX9_init 7 = .ok (.newarray .int, 2) := by decide +kernel
theorem dX9_init_9 : decode cX9_init 9 = .ok (.putfield 7, 3) := by decide +kernel
theorem dX9_init_12 : decode cX9_init 12 = .ok (.aload_n 0, 1) := by decide +kernel
theorem dX9_init_13 : decode cX9_init 13 = .ok (.bipush 40, 2) := by decide +kernel
theorem dX9_init_15 : decode cX9_init 15 = .ok (.newarray .int, 2) := by decide +kernel
theorem dX9_init_17 : decode cX9_init 17 = .ok (.putfield 13, 3) := by decide +kernel
theorem dX9_init_20 : decode cX9_init 20 = .ok (.aload_n 0, 1) := by decide +kernel
theorem dX9_init_21 : decode cX9_init 21 = .ok (.bipush 40, 2) := by decide +kernel
theorem dX9_init_23 : decode cX9_init 23 = .ok (.newarray .int, 2) := by decide +kernel
theorem dX9_init_25 : decode cX9_init 25 = .ok (.putfield 16, 3) := by decide +kernel
theorem dX9_init_28 : decode cX9_init 28 = .ok (.aload_n 0, 1) := by decide +kernel
theorem dX9_init_29 : decode cX9_init 29 = .ok (.bipush 40, 2) := by decide +kernel
theorem dX9_init_31 : decode cX9_init 31 = .ok (.newarray .int, 2) := by decide +kernel
theorem dX9_init_33 : decode cX9_init 33 = .ok (.putfield 19, 3) := by decide +kernel
theorem dX9_init_36 : decode cX9_init 36 = .ok (.aload_n 0, 1) := by decide +kernel
theorem dX9_init_37 : decode cX9_init 37 = .ok (.bipush 40, 2) := by decide +kernel
theorem dX9_init_39 : decode cX9_init 39 = .ok (.newarray .int, 2) := by decide +kernel
theorem dX9_init_41 : decode cX9_init 41 = .ok (.putfield 22, 3) := by decide +kernel
theorem dX9_init_44 : decode cX9_init 44 = .ok (.aload_n 0, 1) := by decide +kernel
theorem dX9_init_45 : decode cX9_init 45 = .ok (.bipush 40, 2) := by decide +kernel
theorem dX9_init_47 : decode cX9_init 47 = .ok (.newarray .int, 2) := by decide +kernel
theorem dX9_init_49 : decode cX9_init 49 = .ok (.putfield 25, 3) := by decide +kernel
theorem dX9_init_52 : decode cX9_init 52 = .ok (.aload_n 0, 1) := by decide +kernel
theorem dX9_init_53 : decode cX9_init 53 = .ok (.sipush 480, 3) := by decide +kernel
theorem dX9_init_56 : decode cX9_init 56 = .ok (.newarray .int, 2) := by decide +kernel
theorem dX9_init_58 : decode cX9_init 58 = .ok (.putfield 28, 3) := by decide +kernel
theorem dX9_init_61 : decode cX9_init 61 = .ok (.aload_n 0, 1) := by decide +kernel
theorem dX9_init_62 : decode cX9_init 62 = .ok (.sipush 480, 3) := by decide +kernel
theorem dX9_init_65 : decode cX9_init 65 = .ok (.newarray .int, 2) := by decide +kernel
theorem dX9_init_67 : decode cX9_init 67 = .ok (.putfield 31, 3) := by decide +kernel
theorem dX9_init_70 : decode cX9_init 70 = .ok (.aload_n 0, 1) := by decide +kernel
theorem dX9_init_71 : decode cX9_init 71 = .ok (.sipush 480, 3) := by decide +kernel
theorem dX9_init_74 : decode cX9_init 74 = .ok (.newarray .int, 2) := by decide +kernel
theorem dX9_init_76 : decode cX9_init 76 = .ok (.putfield 34, 3) := by decide +kernel
theorem dX9_init_79 : decode cX9_init 79 = .ok (.aload_n 0, 1) := by decide +kernel
theorem dX9_init_80 : decode cX9_init 80 = .ok (.bipush 10, 2) := by decide +kernel
theorem dX9_init_82 : decode cX9_init 82 = .ok (.newarray .int, 2) := by decide +kernel
theorem dX9_init_84 : decode cX9_init 84 = .ok (.putfield 37, 3) := by decide +kernel
theorem dX9_init_87 : decode cX9_init 87 = .ok (.aload_n 0, 1) := by decide +kernel
theorem dX9_init_88 : decode cX9_init 88 = .ok (.sipush 180, 3) := by decide +kernel
theorem dX9_init_91 : decode cX9_init 91 = .ok (.newarray .int, 2) := by decide +kernel
theorem dX9_init_93 : decode cX9_init 93 = .ok (.putfield 40, 3) := by decide +kernel
theorem dX9_init_96 : decode cX9_init 96 = .ok (.aload_n 0, 1) := by decide +kernel
theorem dX9_init_97 : decode cX9_init 97 = .ok (.sipush 180, 3) := by decide +kernel
theorem dX9_init_100 : decode cX9_init 100 = .ok (.newarray .int, 2) := by decide +kernel
theorem dX9_init_102 : decode cX9_init 102 = .ok (.putfield 43, 3) := by decide +kernel
theorem dX9_init_105 : decode cX9_init 105 = .ok (.aload_n 0, 1) := by decide +kernel
theorem dX9_init_106 : decode cX9_init 106 = .ok (.bipush 10, 2) := by decide +kernel
theorem dX9_init_108 : decode cX9_init 108 = .ok (.newarray .boolean, 2) := by decide +kernel
theorem dX9_init_110 : decode cX9_init 110 = .ok (.putfield 46, 3) := by decide +kernel
theorem dX9_init_113 : decode cX9_init 113 = .ok (.aload_n 0, 1) := by decide +kernel
theorem dX9_init_114 : decode cX9_init 114 = .ok (.bipush 10, 2) := by decide +kernel
theorem dX9_init_116 : decode cX9_init 116 = .ok (.newarray .int, 2) := by decide +kernel
theorem dX9_init_118 : decode cX9_init 118 = .ok (.putfield 50, 3) := by decide +kernel
theorem dX9_init_121 : decode cX9_init 121 = .ok (.aload_n 0, 1) := by decide +kernel
theorem dX9_init_122 : decode cX9_init 122 = .ok (.bipush 10, 2) := by decide +kernel
theorem dX9_init_124 : decode cX9_init 124 = .ok (.newarray .int, 2) := by decide +kernel
theorem dX9_init_126 : decode cX9_init 126 = .ok (.putfield 53, 3) := by decide +kernel
theorem dX9_init_129 : decode cX9_init 129 = .ok (.aload_n 0, 1) := by decide +kernel
theorem dX9_init_130 : decode cX9_init 130 = .ok (.sipush 400, 3) := by decide +kernel
theorem dX9_init_133 : decode cX9_init 133 = .ok (.newarray .int, 2) := by decide +kernel
theorem dX9_init_135 : decode cX9_init 135 = .ok (.putfield 56, 3) := by decide +kernel
theorem dX9_init_138 : decode cX9_init 138 = .ok (.aload_n 0, 1) := by decide +kernel
theorem dX9_init_139 : decode cX9_init 139 = .ok (.sipush 400, 3) := by decide +kernel
theorem dX9_init_142 : decode cX9_init 142 = .ok (.newarray .int, 2) := by decide +kernel
theorem dX9_init_144 : decode cX9_init 144 = .ok (.putfield 59, 3) := by decide +kernel
theorem dX9_init_147 : decode cX9_init 147 = .ok (.aload_n 0, 1) := by decide +kernel
theorem dX9_init_148 : decode cX9_init 148 = .ok (.bipush 40, 2) := by decide +kernel
theorem dX9_init_150 : decode cX9_init 150 = .ok (.newarray .long, 2) := by decide +kernel
theorem dX9_init_152 : decode cX9_init 152 = .ok (.putfield 62, 3) := by decide +kernel
theorem dX9_init_155 : decode cX9_init 155 = .ok (.return_, 1) := by decide +kernel
theorem dX9_in_0 : decode cX9_in 0 = .ok (.iload_n 0, 1) := by decide +kernel
theorem dX9_in_1 : decode cX9_in 1 = .ok (.iload_n 1, 1) := by decide +kernel
theorem dX9_in_2 : decode cX9_in 2 = .ok (.if_icmp .lt 12, 3) := by decide +kernel
theorem dX9_in_5 : decode cX9_in 5 = .ok (.iload_n 0, 1) := by decide +kernel
theorem dX9_in_6 : decode cX9_in 6 = .ok (.iload_n 2, 1) := by decide +kernel
theorem dX9_in_7 : decode cX9_in 7 = .ok (.if_icmp .gt 7, 3) := by decide +kernel
theorem dX9_in_10 : decode cX9_in 10 = .ok (.iconst 1, 1) := by decide +kernel
theorem dX9_in_11 : decode cX9_in 11 = .ok (.goto 4, 3) := by decide +kernel
theorem dX9_in_14 : decode cX9_in 14 = .ok (.iconst 0, 1) := by decide +kernel
theorem dX9_in_15 : decode cX9_in 15 = .ok (.ireturn, 1) := by decide +kernel
set_option maxRecDepth 20000 in
theorem ggX9_isHouse_X9_in : GoodIn wsX9_isHouse wsX9_in := goodIn_r _ [5] (by decide +kernel) (by decide +kernel)
set_option maxRecDepth 20000 in
theorem gX9_isHouse_X9_in : GoodIn wsX9_isHouse (va_wsS RX9 70 yX9_in wsX9_in) := goodIn_app (goodIn_of _ (by decide +kernel)) ggX9_isHouse_X9_in
theorem dX9_isHouse_0 : decode cX9_isHouse 0 = .ok (.iload_n 1, 1) := by decide +kernel
theorem dX9_isHouse_1 : decode cX9_isHouse 1 = .ok (.iconst 0, 1) := by decide +kernel
theorem dX9_isHouse_2 : decode cX9_isHouse 2 = .ok (.aload_n 0, 1) := by decide +kernel
theorem dX9_isHouse_3 : decode cX9_isHouse 3 = .ok (.getfield 66, 3) := by decide +kernel
theorem dX9_isHouse_6 : decode cX9_isHouse 6 = .ok (.iconst 1, 1) := by decide +kernel
theorem dX9_isHouse_7 : decode cX9_isHouse 7 = .ok (.isub, 1) := by decide +kernel
theorem dX9_isHouse_8 : decode cX9_isHouse 8 = .ok (.invokestatic 70, 3) := by decide +kernel
theorem dX9_isHouse_11 : decode cX9_isHouse 11 = .ok (.ireturn, 1) := by decide +kernel
set_option maxRecDepth 20000 in
theorem ggX9_isDay_X9_in : GoodIn wsX9_isDay wsX9_in := goodIn_r _ [4] (by decide +kernel) (by decide +kernel)
set_option maxRecDepth 20000 in
theorem gX9_isDay_X9_in : GoodIn wsX9_isDay (va_wsS RX9 70 yX9_in wsX9_in) := goodIn_app (goodIn_of _ (by decide +kernel)) ggX9_isDay_X9_in
theorem dX9_isDay_0 : decode cX9_isDay 0 = .ok (.iload_n 0, 1) := by decide +kernel
theorem dX9_isDay_1 : decode cX9_isDay 1 = .ok (.iconst 0, 1) := by decide +kernel
theorem dX9_isDay_2 : decode cX9_isDay 2 = .ok (.sipush 3649, 3) := by decide +kernel
theorem dX9_isDay_5 : decode cX9_isDay 5 = .ok (.invokestatic 70, 3) := by decide +kernel
theorem dX9_isDay_8 : decode cX9_isDay 8 = .ok (.ireturn, 1) := by decide +kernel
set_option maxRecDepth 20000 in
theorem ggX9_house_X9_in : GoodIn wsX9_house wsX9_in := goodIn_r _ [12] (by decide +kernel) (by decide +kernel)
set_option maxRecDepth 20000 in
theorem gX9_house_X9_in : GoodIn wsX9_house (va_wsS RX9 70 yX9_in wsX9_in) := goodIn_app (goodIn_of _ (by decide +kernel)) ggX9_house_X9_in
theorem dX9_house_0 : decode cX9_house 0 = .ok (.iload_n 1, 1) := by decide +kernel
theorem dX9_house_1 : decode cX9_house 1 = .ok (.iconst 0, 1) := by decide +kernel
theorem dX9_house_2 : decode cX9_house 2 = .ok (.iconst 3, 1) := by decide +kernel
theorem dX9_house_3 : decode cX9_house 3 = .ok (.invokestatic 70, 3) := by decide +kernel
theorem dX9_house_6 : decode cX9_house 6 = .ok (.ifCond .eq 44, 3) := by decide +kernel
theorem dX9_house_9 : decode cX9_house 9 = .ok (.iload_n 2, 1) := by decide +kernel
theorem dX9_house_10 : decode cX9_house 10 = .ok (.iconst 0, 1) := by decide +kernel
theorem dX9_house_11 : decode cX9_house 11 = .ok (.iconst 2, 1) := by decide +kernel
theorem dX9_house_12 : decode cX9_house 12 = .ok (.invokestatic 70, 3) := by decide +kernel
theorem dX9_house_15 : decode cX9_house 15 = .ok (.ifCond .eq 35, 3) := by decide +kernel
theorem dX9_house_18 : decode cX9_house 18 = .ok (.iload_n 3, 1) := by decide +kernel
theorem dX9_house_19 : decode cX9_house 19 = .ok (.iconst 0, 1) := by decide +kernel
theorem dX9_house_20 : decode cX9_house 20 = .ok (.iconst 5, 1) := by decide +kernel
theorem dX9_house_21 : decode cX9_house 21 = .ok (.invokestatic 70, 3) := by decide +kernel
theorem dX9_house_24 : decode cX9_house 24 = .ok (.ifCond .eq 26, 3) := by decide +kernel
theorem dX9_house_27 : decode cX9_house 27 = .ok (.iload 4, 2) := by decide +kernel
theorem dX9_house_29 : decode cX9_house 29 = .ok (.iconst 1, 1) := by decide +kernel
theorem dX9_house_30 : decode cX9_house 30 = .ok (.sipush 500, 3) := by decide +kernel
theorem dX9_house_33 : decode cX9_house 33 = .ok (.invokestatic 70, 3) := by decide +kernel
theorem dX9_house_36 : decode cX9_house 36 = .ok (.ifCond .eq 14, 3) := by decide +kernel
theorem dX9_house_39 : decode cX9_house 39 = .ok (.iload 5, 2) := by decide +kernel
theorem dX9_house_41 : decode cX9_house 41 = .ok (.iconst 0, 1) := by decide +kernel
theorem dX9_house_42 : decode cX9_house 42 = .ok (.ldc 74, 2) := by decide +kernel
theorem dX9_house_44 : decode cX9_house 44 = .ok (.invokestatic 70, 3) := by decide +kernel
theorem dX9_house_47 : decode cX9_house 47 = .ok (.ifCond .ne 5, 3) := by decide +kernel
theorem dX9_house_50 : decode cX9_house 50 = .ok (.iconst (-1), 1) := by decide +kernel
theorem dX9_house_51 : decode cX9_house 51 = .ok (.ireturn, 1) := by decide +kernel
theorem dX9_house_52 : decode cX9_house 52 = .ok (.aload_n 0, 1) := by decide +kernel
theorem dX9_house_53 : decode cX9_house 53 = .ok (.getfield 66, 3) := by decide +kernel
theorem dX9_house_56 : decode cX9_house 56 = .ok (.bipush 40, 2) := by decide +kernel
theorem dX9_house_58 : decode cX9_house 58 = .ok (.if_icmp .ne 6, 3) := by decide +kernel
theorem dX9_house_61 : decode cX9_house 61 = .ok (.bipush (-3), 2) := by decide +kernel
theorem dX9_house_63 : decode cX9_house 63 = .ok (.ireturn, 1) := by decide +kernel
theorem dX9_house_64 : decode cX9_house 64 = .ok (.aload_n 0, 1) := by decide +kernel
theorem dX9_house_65 : decode cX9_house 65 = .ok (.getfield 7, 3) := by decide +kernel
theorem dX9_house_68 : decode cX9_house 68 = .ok (.aload_n 0, 1) := by decide +kernel
theorem dX9_house_69 : decode cX9_house 69 = .ok (.getfield 66, 3) := by decide +kernel
theorem dX9_house_72 : decode cX9_house 72 = .ok (.iload_n 1, 1) := by decide +kernel
theorem dX9_house_73 : decode cX9_house 73 = .ok (.iastore, 1) := by decide +kernel
theorem dX9_house_74 : decode cX9_house 74 = .ok (.aload_n 0, 1) := by decide +kernel
theorem dX9_house_75 : decode cX9_house 75 = .ok (.getfield 13, 3) := by decide +kernel
theorem dX9_house_78 : decode cX9_house 78 = .ok (.aload_n 0, 1) := by decide +kernel
theorem dX9_house_79 : decode cX9_house 79 = .ok (.getfield 66, 3) := by decide +kernel
theorem dX9_house_82 : decode cX9_house 82 = .ok (.iload_n 2, 1) := by decide +kernel
theorem dX9_house_83 : decode cX9_house 83 = .ok (.iastore, 1) := by decide +kernel
theorem dX9_house_84 : decode cX9_house 84 = .ok (.aload_n 0, 1) := by decide +kernel
theorem dX9_house_85 : decode cX9_house 85 = .ok (.getfield 16, 3) := by decide +kernel
theorem dX9_house_88 : decode cX9_house 88 = .ok (.aload_n 0, 1) := by decide +kernel
theorem dX9_house_89 : decode cX9_house 89 = .ok (.getfield 66, 3) := by decide +kernel
theorem dX9_house_92 : decode cX9_house 92 = .ok (.iload_n 3, 1) := by decide +kernel
theorem dX9_house_93 : decode cX9_house 93 = .ok (.iastore, 1) := by decide +kernel
theorem dX9_house_94 : decode cX9_house 94 = .ok (.aload_n 0, 1) := by decide +kernel
theorem dX9_house_95 : decode cX9_house 95 = .ok (.getfield 19, 3) := by decide +kernel
theorem dX9_house_98 : decode cX9_house 98 = .ok (.aload_n 0, 1) := by decide +kernel
theorem dX9_house_99 : decode cX9_house 99 = .ok (.getfield 66, 3) := by decide +kernel
theorem dX9_house_102 : decode cX9_house 102 = .ok (.iload 4, 2) := by decide +kernel
theorem dX9_house_104 : decode cX9_house 104 = .ok (.iastore, 1) := by decide +kernel
theorem dX9_house_105 : decode cX9_house 105 = .ok (.aload_n 0, 1) := by decide +kernel
theorem dX9_house_106 : decode cX9_house 106 = .ok (.getfield 22, 3) := by decide +kernel
theorem dX9_house_109 : decode cX9_house 109 = .ok (.aload_n 0, 1) := by decide +kernel
theorem dX9_house_110 : decode cX9_house 110 = .ok (.getfield 66, 3) := by decide +kernel
theorem dX9_house_113 : decode cX9_house 113 = .ok (.iload 5, 2) := by decide +kernel
theorem dX9_house_115 : decode cX9_house 115 = .ok (.iastore, 1) := by decide +kernel
theorem dX9_house_116 : decode cX9_house 116 = .ok (.iconst 0, 1) := by decide +kernel
theorem dX9_house_117 : decode cX9_house 117 = .ok (.istore 6, 2) := by decide +kernel
theorem dX9_house_119 : decode cX9_house 119 = .ok (.iload 6, 2) := by decide +kernel
theorem dX9_house_121 : decode cX9_house 121 = .ok (.bipush 10, 2) := by decide +kernel
theorem dX9_house_123 : decode cX9_house 123 = .ok (.if_icmp .ge 26, 3) := by decide +kernel
theorem dX9_house_126 : decode cX9_house 126 = .ok (.aload_n 0, 1) := by decide +kernel
theorem dX9_house_127 : decode cX9_house 127 = .ok (.getfield 56, 3) := by decide +kernel
theorem dX9_house_130 : decode cX9_house 130 = .ok (.bipush 10, 2) := by decide +kernel
theorem dX9_house_132 : decode cX9_house 132 = .ok (.aload_n 0, 1) := by decide +kernel
theorem dX9_house_133 : decode cX9_house 133 = .ok (.getfield 66, 3) := by decide +kernel
theorem dX9_house_136 : decode cX9_house 136 = .ok (.imul, 1) := by decide +kernel
theorem dX9_house_137 : decode cX9_house 137 = .ok (.iload 6, 2) := by decide +kernel
theorem dX9_house_139 : decode cX9_house 139 = .ok (.iadd, 1) := by decide +kernel
theorem dX9_house_140 : decode cX9_house 140 = .ok (.bipush (-4), 2) := by decide +kernel
theorem dX9_house_142 : decode cX9_house 142 = .ok (.iastore, 1) := by decide +kernel
theorem dX9_house_143 : decode cX9_house 143 = .ok (.iinc 6 1, 3) := by decide +kernel
theorem dX9_house_146 : decode cX9_house 146 = .ok (.goto (-27), 3) := by decide +kernel
theorem dX9_house_149 : decode cX9_house 149 = .ok (.aload_n 0, 1) := by decide +kernel
theorem dX9_house_150 : decode cX9_house 150 = .ok (.dup, 1) := by decide +kernel
theorem dX9_house_151 : decode cX9_house 151 = .ok (.getfield 66, 3) := by decide +kernel
theorem dX9_house_154 : decode cX9_house 154 = .ok (.iconst 1, 1) := by decide +kernel
theorem dX9_house_155 : decode cX9_house 155 = .ok (.iadd, 1) := by decide +kernel
theorem dX9_house_156 : decode cX9_house 156 = .ok (.putfield 66, 3) := by decide +kernel
theorem dX9_house_159 : decode cX9_house 159 = .ok (.aload_n 0, 1) := by decide +kernel
theorem dX9_house_160 : decode cX9_house 160 = .ok (.getfield 66, 3) := by decide +kernel
theorem dX9_house_163 : decode cX9_house 163 = .ok (.iconst 1, 1) := by decide +kernel
theorem dX9_house_164 : decode cX9_house 164 = .ok (.isub, 1) := by decide +kernel
theorem dX9_house_165 : decode cX9_house 165 = .ok (.ireturn, 1) := by decide +kernel
set_option maxRecDepth 20000 in
theorem ggX9_rent_X9_isHouse : GoodIn wsX9_rent wsX9_isHouse := goodIn_r _ [7, 8, 9, 10, 6, 11, 12, 13, 14, 15, 16, 17, 18, 19, 20, 21, 22, 23, 24, 25, 26, 27, 28, 29, 30, 31, 32, 33] (by decide +kernel) (by decide +kernel)
set_option maxRecDepth 20000 in
theorem gX9_rent_X9_isHouse : GoodIn wsX9_rent (wsV RX9 75 RX9 yX9_isHouse wsX9_isHouse) := goodIn_app (goodIn_of _ (by decide +kernel)) ggX9_rent_X9_isHouse
set_option maxRecDepth 20000 in
theorem ggX9_rent_X9_in : GoodIn wsX9_rent wsX9_in := goodIn_r _ [11] (by decide +kernel) (by decide +kernel)
set_option maxRecDepth 20000 in
theorem gX9_rent_X9_in : GoodIn wsX9_rent (va_wsS RX9 70 yX9_in wsX9_in) := goodIn_app (goodIn_of _ (by decide +kernel)) ggX9_rent_X9_in
theorem dX9_rent_0 : decode cX9_rent 0 = .ok (.aload_n 0, 1) := by decide +kernel
theorem dX9_rent_1 : decode cX9_rent 1 = .ok (.iload_n 1, 1) := by decide +kernel
theorem dX9_rent_2 : decode cX9_rent 2 = .ok (.invokevirtual 75, 3) := by decide +kernel
theorem dX9_rent_5 : decode cX9_rent 5 = .ok (.ifCond .eq 13, 3) := by decide +kernel
theorem dX9_rent_8 : decode cX9_rent 8 = .ok (.iload_n 2, 1) := by decide +kernel
theorem dX9_rent_9 : decode cX9_rent 9 = .ok (.iconst 0, 1) := by decide +kernel
theorem dX9_rent_10 : decode cX9_rent 10 = .ok (.ldc 74, 2) := by decide +kernel
theorem dX9_rent_12 : decode cX9_rent 12 = .ok (.invokestatic 70, 3) := by decide +kernel
theorem dX9_rent_15 : decode cX9_rent 15 = .ok (.ifCond .ne 5, 3) := by decide +kernel
theorem dX9_rent_18 : decode cX9_rent 18 = .ok (.iconst (-1), 1) := by decide +kernel
theorem dX9_rent_19 : decode cX9_rent 19 = .ok (.ireturn, 1) := by decide +kernel
theorem dX9_rent_20 : decode cX9_rent 20 = .ok (.aload_n 0, 1) := by decide +kernel
theorem dX9_rent_21 : decode cX9_rent 21 = .ok (.getfield 22, 3) := by decide +kernel
theorem dX9_rent_24 : decode cX9_rent 24 = .ok (.iload_n 1, 1) := by decide +kernel
theorem dX9_rent_25 : decode cX9_rent 25 = .ok (.iaload, 1) := by decide +kernel
theorem dX9_rent_26 : decode cX9_rent 26 = .ok (.istore_n 3, 1) := by decide +kernel
theorem dX9_rent_27 : decode cX9_rent 27 = .ok (.aload_n 0, 1) := by decide +kernel
theorem dX9_rent_28 : decode cX9_rent 28 = .ok (.getfield 22, 3) := by decide +kernel
theorem dX9_rent_31 : decode cX9_rent 31 = .ok (.iload_n 1, 1) := by decide +kernel
theorem dX9_rent_32 : decode cX9_rent 32 = .ok (.iload_n 2, 1) := by decide +kernel
theorem dX9_rent_33 : decode cX9_rent 33 = .ok (.iastore, 1) := by decide +kernel
theorem dX9_rent_34 : decode cX9_rent 34 = .ok (.iload_n 3, 1) := by decide +kernel
theorem dX9_rent_35 : decode cX9_rent 35 = .ok (.ireturn, 1) := by decide +kernel
theorem dX9_isAsked_0 : decode cX9_isAsked 0 = .ok (.iload_n 1, 1) := by decide +kernel
theorem dX9_isAsked_1 : decode cX9_isAsked 1 = .ok (.iload 4, 2) := by decide +kernel
theorem dX9_isAsked_3 : decode cX9_isAsked 3 = .ok (.if_icmp .eq 40, 3) := by decide +kernel
theorem dX9_isAsked_6 : decode cX9_isAsked 6 = .ok (.aload_n 0, 1) := by decide +kernel
theorem dX9_isAsked_7 : decode cX9_isAsked 7 = .ok (.getfield 13, 3) := by decide +kernel
theorem dX9_isAsked_10 : decode cX9_isAsked 10 = .ok (.iload_n 1, 1) := by decide +kernel
theorem dX9_isAsked_11 : decode cX9_isAsked 11 = .ok (.iaload, 1) := by decide +kernel
theorem dX9_isAsked_12 : decode cX9_isAsked 12 = .ok (.iload_n 2, 1) := by decide +kernel
theorem dX9_isAsked_13 : decode cX9_isAsked 13 = .ok (.if_icmp .ne 30, 3) := by decide +kernel
theorem dX9_isAsked_16 : decode cX9_isAsked 16 = .ok (.iload_n 3, 1) := by decide +kernel
theorem dX9_isAsked_17 : decode cX9_isAsked 17 = .ok (.ifCond .lt 13, 3) := by decide +kernel
theorem dX9_isAsked_20 : decode cX9_isAsked 20 = .ok (.aload_n 0, 1) := by decide +kernel
theorem dX9_isAsked_21 : decode cX9_isAsked 21 = .ok (.getfield 16, 3) := by decide +kernel
theorem dX9_isAsked_24 : decode cX9_isAsked 24 = .ok (.iload_n 1, 1) := by decide +kernel
theorem dX9_isAsked_25 : decode cX9_isAsked 25 = .ok (.iaload, 1) := by decide +kernel
theorem dX9_isAsked_26 : decode cX9_isAsked 26 = .ok (.iload_n 3, 1) := by decide +kernel
theorem dX9_isAsked_27 : decode cX9_isAsked 27 = .ok (.if_icmp .ne 16, 3) := by decide +kernel
theorem dX9_isAsked_30 : decode cX9_isAsked 30 = .ok (.aload_n 0, 1) := by decide +kernel
theorem dX9_isAsked_31 : decode cX9_isAsked 31 = .ok (.getfield 22, 3) := by decide +kernel
theorem dX9_isAsked_34 : decode cX9_isAsked 34 = .ok (.iload_n 1, 1) := by decide +kernel
theorem dX9_isAsked_35 : decode cX9_isAsked 35 = .ok (.iaload, 1) := by decide +kernel
theorem dX9_isAsked_36 : decode cX9_isAsked 36 = .ok (.ifCond .le 7, 3) := by decide +kernel
theorem dX9_isAsked_39 : decode cX9_isAsked 39 = .ok (.iconst 1, 1) := by decide +kernel
theorem dX9_isAsked_40 : decode cX9_isAsked 40 = .ok (.goto 4, 3) := by decide +kernel
theorem dX9_isAsked_43 : decode cX9_isAsked 43 = .ok (.iconst 0, 1) := by decide +kernel
theorem dX9_isAsked_44 : decode cX9_isAsked 44 = .ok (.ireturn, 1) := by decide +kernel
end
section
theorem dX9_isLess_0 : decode cX9_isLess 0 = .ok (.aload_n 0, 1) := by decide +kernel
theorem dX9_isLess_1 : decode cX9_isLess 1 = .ok (.getfield 22, 3) := by decide +kernel
theorem dX9_isLess_4 : decode cX9_isLess 4 = .ok (.iload_n 1, 1) := by decide +kernel
theorem dX9_isLess_5 : decode cX9_isLess 5 = .ok (.iaload, 1) := by decide +kernel
theorem dX9_isLess_6 : decode cX9_isLess 6 = .ok (.aload_n 0, 1) := by decide +kernel
theorem dX9_isLess_7 : decode cX9_isLess 7 = .ok (.getfield 19, 3) := by decide +kernel
theorem dX9_isLess_10 : decode cX9_isLess 10 = .ok (.iload_n 2, 1) := by decide +kernel
theorem dX9_isLess_11 : decode cX9_isLess 11 = .ok (.iaload, 1) := by decide +kernel
theorem dX9_isLess_12 : decode cX9_isLess 12 = .ok (.imul, 1) := by decide +kernel
theorem dX9_isLess_13 : decode cX9_isLess 13 = .ok (.istore_n 3, 1) := by decide +kernel
theorem dX9_isLess_14 : decode cX9_isLess 14 = .ok (.aload_n 0, 1) := by decide +kernel
theorem dX9_isLess_15 : decode cX9_isLess 15 = .ok (.getfield 22, 3) := by decide +kernel
theorem dX9_isLess_18 : decode cX9_isLess 18 = .ok (.iload_n 2, 1) := by decide +kernel
theorem dX9_isLess_19 : decode cX9_isLess 19 = .ok (.iaload, 1) := by decide +kernel
theorem dX9_isLess_20 : decode cX9_isLess 20 = .ok (.aload_n 0, 1) := by decide +kernel
theorem dX9_isLess_21 : decode cX9_isLess 21 = .ok (.getfield 19, 3) := by decide +kernel
theorem dX9_isLess_24 : decode cX9_isLess 24 = .ok (.iload_n 1, 1) := by decide +kernel
theorem dX9_isLess_25 : decode cX9_isLess 25 = .ok (.iaload, 1) := by decide +kernel
theorem dX9_isLess_26 : decode cX9_isLess 26 = .ok (.imul, 1) := by decide +kernel
theorem dX9_isLess_27 : decode cX9_isLess 27 = .ok (.istore 4, 2) := by decide +kernel
theorem dX9_isLess_29 : decode cX9_isLess 29 = .ok (.iload_n 3, 1) := by decide +kernel
theorem dX9_isLess_30 : decode cX9_isLess 30 = .ok (.iload 4, 2) := by decide +kernel
theorem dX9_isLess_32 : decode cX9_isLess 32 = .ok (.if_icmp .lt 14, 3) := by decide +kernel
theorem dX9_isLess_35 : decode cX9_isLess 35 = .ok (.iload_n 3, 1) := by decide +kernel
theorem dX9_isLess_36 : decode cX9_isLess 36 = .ok (.iload 4, 2) := by decide +kernel
theorem dX9_isLess_38 : decode cX9_isLess 38 = .ok (.if_icmp .ne 12, 3) := by decide +kernel
theorem dX9_isLess_41 : decode cX9_isLess 41 = .ok (.iload_n 1, 1) := by decide +kernel
theorem dX9_isLess_42 : decode cX9_isLess 42 = .ok (.iload_n 2, 1) := by decide +kernel
theorem dX9_isLess_43 : decode cX9_isLess 43 = .ok (.if_icmp .ge 7, 3) := by decide +kernel
theorem dX9_isLess_46 : decode cX9_isLess 46 = .ok (.iconst 1, 1) := by decide +kernel
theorem dX9_isLess_47 : decode cX9_isLess 47 = .ok (.goto 4, 3) := by decide +kernel
theorem dX9_isLess_50 : decode cX9_isLess 50 = .ok (.iconst 0, 1) := by decide +kernel
theorem dX9_isLess_51 : decode cX9_isLess 51 = .ok (.ireturn, 1) := by decide +kernel
set_option maxRecDepth 20000 in
theorem ggX9_middle_X9_isAsked : GoodIn wsX9_middle wsX9_isAsked := goodIn_r _ [8, 9, 10, 11, 17, 18, 19, 20, 21, 22, 23, 24, 25, 26, 27, 28, 29, 30, 31, 32, 33, 34, 35, 36, 37, 38] (by decide +kernel) (by decide +kernel)
set_option maxRecDepth 20000 in
theorem gX9_middle_X9_isAsked : GoodIn wsX9_middle (wsV RX9 85 RX9 yX9_isAsked wsX9_isAsked) := goodIn_app (goodIn_of _ (by decide +kernel)) ggX9_middle_X9_isAsked
set_option maxRecDepth 20000 in
theorem ggX9_middle_X9_isLess : GoodIn wsX9_middle wsX9_isLess := goodIn_r _ [15, 11, 16, 17, 18, 19, 20, 21, 22, 23, 24, 25, 26, 27, 28, 29, 30, 31, 32, 33, 34, 35, 36, 37, 38] (by decide +kernel) (by decide +kernel)
set_option maxRecDepth 20000 in
theorem gX9_middle_X9_isLess : GoodIn wsX9_middle (wsV RX9 89 RX9 yX9_isLess wsX9_isLess) := goodIn_app (goodIn_of _ (by decide +kernel)) ggX9_middle_X9_isLess
theorem dX9_middle_0 : decode cX9_middle 0 = .ok (.aload_n 0, 1) := by decide +kernel
theorem dX9_middle_1 : decode cX9_middle 1 = .ok (.iconst (-1), 1) := by decide +kernel
theorem dX9_middle_2 : decode cX9_middle 2 = .ok (.putfield 79, 3) := by decide +kernel
theorem dX9_middle_5 : decode cX9_middle 5 = .ok (.aload_n 0, 1) := by decide +kernel
theorem dX9_middle_6 : decode cX9_middle 6 = .ok (.iconst 0, 1) := by decide +kernel
theorem dX9_middle_7 : decode cX9_middle 7 = .ok (.putfield 82, 3) := by decide +kernel
theorem dX9_middle_10 : decode cX9_middle 10 = .ok (.iconst 0, 1) := by decide +kernel
theorem dX9_middle_11 : decode cX9_middle 11 = .ok (.istore 4, 2) := by decide +kernel
theorem dX9_middle_13 : decode cX9_middle 13 = .ok (.iload 4, 2) := by decide +kernel
theorem dX9_middle_15 : decode cX9_middle 15 = .ok (.aload_n 0, 1) := by decide +kernel
theorem dX9_middle_16 : decode cX9_middle 16 = .ok (.getfield 66, 3) := by decide +kernel
theorem dX9_middle_19 : decode cX9_middle 19 = .ok (.if_icmp .ge 35, 3) := by decide +kernel
theorem dX9_middle_22 : decode cX9_middle 22 = .ok (.aload_n 0, 1) := by decide +kernel
theorem dX9_middle_23 : decode cX9_middle 23 = .ok (.dup, 1) := by decide +kernel
theorem dX9_middle_24 : decode cX9_middle 24 = .ok (.getfield 82, 3) := by decide +kernel
theorem dX9_middle_27 : decode cX9_middle 27 = .ok (.aload_n 0, 1) := by decide +kernel
theorem dX9_middle_28 : decode cX9_middle 28 = .ok (.iload 4, 2) := by decide +kernel
theorem dX9_middle_30 : decode cX9_middle 30 = .ok (.iload_n 1, 1) := by decide +kernel
theorem dX9_middle_31 : decode cX9_middle 31 = .ok (.iload_n 2, 1) := by decide +kernel
theorem dX9_middle_32 : decode cX9_middle 32 = .ok (.iload_n 3, 1) := by decide +kernel
theorem dX9_middle_33 : decode cX9_middle 33 = .ok (.invokevirtual 85, 3) := by decide +kernel
theorem dX9_middle_36 : decode cX9_middle 36 = .ok (.ifCond .eq 7, 3) := by decide +kernel
theorem dX9_middle_39 : decode cX9_middle 39 = .ok (.iconst 1, 1) := by decide +kernel
theorem dX9_middle_40 : decode cX9_middle 40 = .ok (.goto 4, 3) := by decide +kernel
theorem dX9_middle_43 : decode cX9_middle 43 = .ok (.iconst 0, 1) := by decide +kernel
theorem dX9_middle_44 : decode cX9_middle 44 = .ok (.iadd, 1) := by decide +kernel
theorem dX9_middle_45 : decode cX9_middle 45 = .ok (.putfield 82, 3) := by decide +kernel
theorem dX9_middle_48 : decode cX9_middle 48 = .ok (.iinc 4 1, 3) := by decide +kernel
theorem dX9_middle_51 : decode cX9_middle 51 = .ok (.goto (-38), 3) := by decide +kernel
theorem dX9_middle_54 : decode cX9_middle 54 = .ok (.iconst 0, 1) := by decide +kernel
theorem dX9_middle_55 : decode cX9_middle 55 = .ok (.istore 4, 2) := by decide +kernel
theorem dX9_middle_57 : decode cX9_middle 57 = .ok (.iload 4, 2) := by decide +kernel
theorem dX9_middle_59 : decode cX9_middle 59 = .ok (.aload_n 0, 1) := by decide +kernel
theorem dX9_middle_60 : decode cX9_middle 60 = .ok (.getfield 66, 3) := by decide +kernel
theorem dX9_middle_63 : decode cX9_middle 63 = .ok (.if_icmp .ge 101, 3) := by decide +kernel
theorem dX9_middle_66 : decode cX9_middle 66 = .ok (.iconst 0, 1) := by decide +kernel
theorem dX9_middle_67 : decode cX9_middle 67 = .ok (.istore 5, 2) := by decide +kernel
theorem dX9_middle_69 : decode cX9_middle 69 = .ok (.iconst 0, 1) := by decide +kernel
theorem dX9_middle_70 : decode cX9_middle 70 = .ok (.istore 6, 2) := by decide +kernel
theorem dX9_middle_72 : decode cX9_middle 72 = .ok (.iload 6, 2) := by decide +kernel
theorem dX9_middle_74 : decode cX9_middle 74 = .ok (.aload_n 0, 1) := by decide +kernel
theorem dX9_middle_75 : decode cX9_middle 75 = .ok (.getfield 66, 3) := by decide +kernel
theorem dX9_middle_78 : decode cX9_middle 78 = .ok (.if_icmp .ge 42, 3) := by decide +kernel
theorem dX9_middle_81 : decode cX9_middle 81 = .ok (.iload 5, 2) := by decide +kernel
theorem dX9_middle_83 : decode cX9_middle 83 = .ok (.aload_n 0, 1) := by decide +kernel
theorem dX9_middle_84 : decode cX9_middle 84 = .ok (.iload 6, 2) := by decide +kernel
theorem dX9_middle_86 : decode cX9_middle 86 = .ok (.iload_n 1, 1) := by decide +kernel
theorem dX9_middle_87 : decode cX9_middle 87 = .ok (.iload_n 2, 1) := by decide +kernel
theorem dX9_middle_88 : decode cX9_middle 88 = .ok (.iload_n 3, 1) := by decide +kernel
theorem dX9_middle_89 : decode cX9_middle 89 = .ok (.invokevirtual 85, 3) := by decide +kernel
theorem dX9_middle_92 : decode cX9_middle 92 = .ok (.ifCond .eq 18, 3) := by decide +kernel
theorem dX9_middle_95 : decode cX9_middle 95 = .ok (.aload_n 0, 1) := by decide +kernel
theorem dX9_middle_96 : decode cX9_middle 96 = .ok (.iload 6, 2) := by decide +kernel
theorem dX9_middle_98 : decode cX9_middle 98 = .ok (.iload 4, 2) := by decide +kernel
theorem dX9_middle_100 : decode cX9_middle 100 = .ok (.invokevirtual 89, 3) := by decide +kernel
theorem dX9_middle_103 : decode cX9_middle 103 = .ok (.ifCond .eq 7, 3) := by decide +kernel
theorem dX9_middle_106 : decode cX9_middle 106 = .ok (.iconst 1, 1) := by decide +kernel
theorem dX9_middle_107 : decode cX9_middle 107 = .ok (.goto 4, 3) := by decide +kernel
theorem dX9_middle_110 : decode cX9_middle 110 = .ok (.iconst 0, 1) := by decide +kernel
theorem dX9_middle_111 : decode cX9_middle 111 = .ok (.iadd, 1) := by decide +kernel
theorem dX9_middle_112 : decode cX9_middle 112 = .ok (.istore 5, 2) := by decide +kernel
theorem dX9_middle_114 : decode cX9_middle 114 = .ok (.iinc 6 1, 3) := by decide +kernel
theorem dX9_middle_117 : decode cX9_middle 117 = .ok (.goto (-45), 3) := by decide +kernel
theorem dX9_middle_120 : decode cX9_middle 120 = .ok (.aload_n 0, 1) := by decide +kernel
theorem dX9_middle_121 : decode cX9_middle 121 = .ok (.aload_n 0, 1) := by decide +kernel
theorem dX9_middle_122 : decode cX9_middle 122 = .ok (.iload 4, 2) := by decide +kernel
theorem dX9_middle_124 : decode cX9_middle 124 = .ok (.iload_n 1, 1) := by decide +kernel
theorem dX9_middle_125 : decode cX9_middle 125 = .ok (.iload_n 2, 1) := by decide +kernel
theorem dX9_middle_126 : decode cX9_middle 126 = .ok (.iload_n 3, 1) := by decide +kernel
theorem dX9_middle_127 : decode cX9_middle 127 = .ok (.invokevirtual 85, 3) := by decide +kernel
theorem dX9_middle_130 : decode cX9_middle 130 = .ok (.ifCond .eq 21, 3) := by decide +kernel
theorem dX9_middle_133 : decode cX9_middle 133 = .ok (.iload 5, 2) := by decide +kernel
theorem dX9_middle_135 : decode cX9_middle 135 = .ok (.aload_n 0, 1) := by decide +kernel
theorem dX9_middle_136 : decode cX9_middle 136 = .ok (.getfield 82, 3) := by decide +kernel
theorem dX9_middle_139 : decode cX9_middle 139 = .ok (.iconst 1, 1) := by decide +kernel
theorem dX9_middle_140 : decode cX9_middle 140 = .ok (.isub, 1) := by decide +kernel
theorem dX9_middle_141 : decode cX9_middle 141 = .ok (.iconst 2, 1) := by decide +kernel
theorem dX9_middle_142 : decode cX9_middle 142 = .ok (.idiv, 1) := by decide +kernel
theorem dX9_middle_143 : decode cX9_middle 143 = .ok (.if_icmp .ne 8, 3) := by decide +kernel
theorem dX9_middle_146 : decode cX9_middle 146 = .ok (.iload 4, 2) := by decide +kernel
theorem dX9_middle_148 : decode cX9_middle 148 = .ok (.goto 7, 3) := by decide +kernel
theorem dX9_middle_151 : decode cX9_middle 151 = .ok (.aload_n 0, 1) := by decide +kernel
theorem dX9_middle_152 : decode cX9_middle 152 = .ok (.getfield 79, 3) := by decide +kernel
theorem dX9_middle_155 : decode cX9_middle 155 = .ok (.putfield 79, 3) := by decide +kernel
theorem dX9_middle_158 : decode cX9_middle 158 = .ok (.iinc 4 1, 3) := by decide +kernel
theorem dX9_middle_161 : decode cX9_middle 161 = .ok (.goto (-104), 3) := by decide +kernel
theorem dX9_middle_164 : decode cX9_middle 164 = .ok (.return_, 1) := by decide +kernel
set_option maxRecDepth 20000 in
theorem ggX9_finds_X9_middle : GoodIn wsX9_finds wsX9_middle := goodIn_r _ [6, 1, 7, 8, 9, 10, 11, 5, 12, 13, 14, 15, 16, 17, 18, 19, 20, 21, 22, 23, 24, 25, 26, 27, 28, 29, 30, 31, 32, 33, 34, 35, 36, 37, 38, 39, 40, 41, 42] (by decide +kernel) (by decide +kernel)
set_option maxRecDepth 20000 in
theorem gX9_finds_X9_middle : GoodIn wsX9_finds (wsV RX9 93 RX9 yX9_middle wsX9_middle) := goodIn_app (goodIn_of _ (by decide +kernel)) ggX9_finds_X9_middle
theorem dX9_finds_0 : decode cX9_finds 0 = .ok (.aload_n 0, 1) := by decide +kernel
theorem dX9_finds_1 : decode cX9_finds 1 = .ok (.iload_n 1, 1) := by decide +kernel
theorem dX9_finds_2 : decode cX9_finds 2 = .ok (.iload_n 2, 1) := by decide +kernel
theorem dX9_finds_3 : decode cX9_finds 3 = .ok (.iload_n 3, 1) := by decide +kernel
theorem dX9_finds_4 : decode cX9_finds 4 = .ok (.invokevirtual 93, 3) := by decide +kernel
theorem dX9_finds_7 : decode cX9_finds 7 = .ok (.aload_n 0, 1) := by decide +kernel
theorem dX9_finds_8 : decode cX9_finds 8 = .ok (.getfield 79, 3) := by decide +kernel
theorem dX9_finds_11 : decode cX9_finds 11 = .ok (.ifCond .ge 10, 3) := by decide +kernel
theorem dX9_finds_14 : decode cX9_finds 14 = .ok (.aload_n 0, 1) := by decide +kernel
theorem dX9_finds_15 : decode cX9_finds 15 = .ok (.iload_n 1, 1) := by decide +kernel
theorem dX9_finds_16 : decode cX9_finds 16 = .ok (.iconst (-1), 1) := by decide +kernel
theorem dX9_finds_17 : decode cX9_finds 17 = .ok (.iload_n 3, 1) := by decide +kernel
theorem dX9_finds_18 : decode cX9_finds 18 = .ok (.invokevirtual 93, 3) := by decide +kernel
theorem dX9_finds_21 : decode cX9_finds 21 = .ok (.return_, 1) := by decide +kernel
set_option maxRecDepth 20000 in
theorem ggX9_unit_X9_in : GoodIn wsX9_unit wsX9_in := goodIn_r _ [8] (by decide +kernel) (by decide +kernel)
set_option maxRecDepth 20000 in
theorem gX9_unit_X9_in : GoodIn wsX9_unit (va_wsS RX9 70 yX9_in wsX9_in) := goodIn_app (goodIn_of _ (by decide +kernel)) ggX9_unit_X9_in
set_option maxRecDepth 20000 in
theorem ggX9_unit_X9_finds : GoodIn wsX9_unit wsX9_finds := goodIn_r _ [12, 1, 13, 14, 15, 7, 16, 4, 17, 18, 19, 20, 21, 22, 23, 2, 24, 25, 26, 27, 3, 28, 29, 30, 31, 32, 33, 34, 35, 36, 37, 38, 39, 40, 41, 42, 43, 44, 45, 46, 47, 48, 49] (by decide +kernel) (by decide +kernel)
set_option maxRecDepth 20000 in
theorem gX9_unit_X9_finds : GoodIn wsX9_unit (wsV RX9 97 RX9 yX9_finds wsX9_finds) := goodIn_app (goodIn_of _ (by decide +kernel)) ggX9_unit_X9_finds
theorem dX9_unit_0 : decode cX9_unit 0 = .ok (.iload_n 1, 1) := by decide +kernel
theorem dX9_unit_1 : decode cX9_unit 1 = .ok (.iconst 0, 1) := by decide +kernel
theorem dX9_unit_2 : decode cX9_unit 2 = .ok (.iconst 2, 1) := by decide +kernel
theorem dX9_unit_3 : decode cX9_unit 3 = .ok (.invokestatic 70, 3) := by decide +kernel
theorem dX9_unit_6 : decode cX9_unit 6 = .ok (.ifCond .eq 21, 3) := by decide +kernel
theorem dX9_unit_9 : decode cX9_unit 9 = .ok (.iload_n 2, 1) := by decide +kernel
theorem dX9_unit_10 : decode cX9_unit 10 = .ok (.iconst 0, 1) := by decide +kernel
theorem dX9_unit_11 : decode cX9_unit 11 = .ok (.iconst 5, 1) := by decide +kernel
theorem dX9_unit_12 : decode cX9_unit 12 = .ok (.invokestatic 70, 3) := by decide +kernel
theorem dX9_unit_15 : decode cX9_unit 15 = .ok (.ifCond .eq 12, 3) := by decide +kernel
theorem dX9_unit_18 : decode cX9_unit 18 = .ok (.iload_n 3, 1) := by decide +kernel
theorem dX9_unit_19 : decode cX9_unit 19 = .ok (.iconst 0, 1) := by decide +kernel
theorem dX9_unit_20 : decode cX9_unit 20 = .ok (.iconst 3, 1) := by decide +kernel
theorem dX9_unit_21 : decode cX9_unit 21 = .ok (.invokestatic 70, 3) := by decide +kernel
theorem dX9_unit_24 : decode cX9_unit 24 = .ok (.ifCond .ne 5, 3) := by decide +kernel
theorem dX9_unit_27 : decode cX9_unit 27 = .ok (.iconst (-1), 1) := by decide +kernel
theorem dX9_unit_28 : decode cX9_unit 28 = .ok (.ireturn, 1) := by decide +kernel
theorem dX9_unit_29 : decode cX9_unit 29 = .ok (.aload_n 0, 1) := by decide +kernel
theorem dX9_unit_30 : decode cX9_unit 30 = .ok (.iload_n 1, 1) := by decide +kernel
theorem dX9_unit_31 : decode cX9_unit 31 = .ok (.iload_n 2, 1) := by decide +kernel
theorem dX9_unit_32 : decode cX9_unit 32 = .ok (.iconst (-1), 1) := by decide +kernel
theorem dX9_unit_33 : decode cX9_unit 33 = .ok (.invokevirtual 97, 3) := by decide +kernel
theorem dX9_unit_36 : decode cX9_unit 36 = .ok (.iload_n 3, 1) := by decide +kernel
theorem dX9_unit_37 : decode cX9_unit 37 = .ok (.tableswitch 75 0 2 #[27, 49, 70], 27) := by decide +kernel
theorem dX9_unit_64 : decode cX9_unit 64 = .ok (.aload_n 0, 1) := by decide +kernel
theorem dX9_unit_65 : decode cX9_unit 65 = .ok (.getfield 79, 3) := by decide +kernel
theorem dX9_unit_68 : decode cX9_unit 68 = .ok (.ifCond .ge 8, 3) := by decide +kernel
theorem dX9_unit_71 : decode cX9_unit 71 = .ok (.bipush 10, 2) := by decide +kernel
theorem dX9_unit_73 : decode cX9_unit 73 = .ok (.goto 12, 3) := by decide +kernel
theorem dX9_unit_76 : decode cX9_unit 76 = .ok (.aload_n 0, 1) := by decide +kernel
theorem dX9_unit_77 : decode cX9_unit 77 = .ok (.getfield 22, 3) := by decide +kernel
theorem dX9_unit_80 : decode cX9_unit 80 = .ok (.aload_n 0, 1) := by decide +kernel
theorem dX9_unit_81 : decode cX9_unit 81 = .ok (.getfield 79, 3) := by decide +kernel
theorem dX9_unit_84 : decode cX9_unit 84 = .ok (.iaload, 1) := by decide +kernel
theorem dX9_unit_85 : decode cX9_unit 85 = .ok (.ireturn, 1) := by decide +kernel
theorem dX9_unit_86 : decode cX9_unit 86 = .ok (.aload_n 0, 1) := by decide +kernel
theorem dX9_unit_87 : decode cX9_unit 87 = .ok (.getfield 79, 3) := by decide +kernel
theorem dX9_unit_90 : decode cX9_unit 90 = .ok (.ifCond .ge 7, 3) := by decide +kernel
theorem dX9_unit_93 : decode cX9_unit 93 = .ok (.iconst 1, 1) := by decide +kernel
theorem dX9_unit_94 : decode cX9_unit 94 = .ok (.goto 12, 3) := by decide +kernel
theorem dX9_unit_97 : decode cX9_unit 97 = .ok (.aload_n 0, 1) := by decide +kernel
theorem dX9_unit_98 : decode cX9_unit 98 = .ok (.getfield 19, 3) := by decide +kernel
theorem dX9_unit_101 : decode cX9_unit 101 = .ok (.aload_n 0, 1) := by decide +kernel
theorem dX9_unit_102 : decode cX9_unit 102 = .ok (.getfield 79, 3) := by decide +kernel
theorem dX9_unit_105 : decode cX9_unit 105 = .ok (.iaload, 1) := by decide +kernel
theorem dX9_unit_106 : decode cX9_unit 106 = .ok (.ireturn, 1) := by decide +kernel
theorem dX9_unit_107 : decode cX9_unit 107 = .ok (.aload_n 0, 1) := by decide +kernel
theorem dX9_unit_108 : decode cX9_unit 108 = .ok (.getfield 82, 3) := by decide +kernel
theorem dX9_unit_111 : decode cX9_unit 111 = .ok (.ireturn, 1) := by decide +kernel
theorem dX9_unit_112 : decode cX9_unit 112 = .ok (.aload_n 0, 1) := by decide +kernel
theorem dX9_unit_113 : decode cX9_unit 113 = .ok (.getfield 79, 3) := by decide +kernel
theorem dX9_unit_116 : decode cX9_unit 116 = .ok (.ifCond .ge 8, 3) := by decide +kernel
theorem dX9_unit_119 : decode cX9_unit 119 = .ok (.bipush (-4), 2) := by decide +kernel
theorem dX9_unit_121 : decode cX9_unit 121 = .ok (.goto 7, 3) := by decide +kernel
theorem dX9_unit_124 : decode cX9_unit 124 = .ok (.aload_n 0, 1) := by decide +kernel
theorem dX9_unit_125 : decode cX9_unit 125 = .ok (.getfield 79, 3) := by decide +kernel
theorem dX9_unit_128 : decode cX9_unit 128 = .ok (.ireturn, 1) := by decide +kernel
set_option maxRecDepth 20000 in
theorem ggX9_tested_X9_isHouse : GoodIn wsX9_tested wsX9_isHouse := goodIn_r _ [10, 11, 12, 13, 9, 14, 32, 33, 34, 35, 36, 37, 38, 39, 40, 41, 42, 43, 44, 45, 46, 47, 48, 49, 50, 51, 52, 53] (by decide +kernel) (by decide +kernel)
set_option maxRecDepth 20000 in
theorem gX9_tested_X9_isHouse : GoodIn wsX9_tested (wsV RX9 75 RX9 yX9_isHouse wsX9_isHouse) := goodIn_app (goodIn_of _ (by decide +kernel)) ggX9_tested_X9_isHouse
set_option maxRecDepth 20000 in
theorem ggX9_tested_X9_finds : GoodIn wsX9_tested wsX9_finds := goodIn_r _ [18, 3, 19, 20, 21, 9, 22, 23, 11, 24, 25, 26, 27, 1, 2, 5, 28, 29, 30, 31, 4, 32, 33, 34, 35, 36, 37, 38, 39, 40, 41, 42, 43, 44, 45, 46, 47, 48, 49, 50, 51, 52, 53] (by decide +kernel) (by decide +kernel)
set_option maxRecDepth 20000 in
theorem gX9_tested_X9_finds : GoodIn wsX9_tested (wsV RX9 97 RX9 yX9_finds wsX9_finds) := goodIn_app (goodIn_of _ (by decide +kernel)) ggX9_tested_X9_finds
theorem dX9_tested_0 : decode cX9_tested 0 = .ok (.aload_n 0, 1) := by decide +kernel
theorem dX9_tested_1 : decode cX9_tested 1 = .ok (.iload_n 1, 1) := by decide +kernel
theorem dX9_tested_2 : decode cX9_tested 2 = .ok (.invokevirtual 75, 3) := by decide +kernel
theorem dX9_tested_5 : decode cX9_tested 5 = .ok (.ifCond .ne 5, 3) := by decide +kernel
theorem dX9_tested_8 : decode cX9_tested 8 = .ok (.iconst (-1), 1) := by decide +kernel
theorem dX9_tested_9 : decode cX9_tested 9 = .ok (.ireturn, 1) := by decide +kernel
theorem dX9_tested_10 : decode cX9_tested 10 = .ok (.aload_n 0, 1) := by decide +kernel
theorem dX9_tested_11 : decode cX9_tested 11 = .ok (.aload_n 0, 1) := by decide +kernel
theorem dX9_tested_12 : decode cX9_tested 12 = .ok (.getfield 13, 3) := by decide +kernel
theorem dX9_tested_15 : decode cX9_tested 15 = .ok (.iload_n 1, 1) := by decide +kernel
theorem dX9_tested_16 : decode cX9_tested 16 = .ok (.iaload, 1) := by decide +kernel
theorem dX9_tested_17 : decode cX9_tested 17 = .ok (.aload_n 0, 1) := by decide +kernel
theorem dX9_tested_18 : decode cX9_tested 18 = .ok (.getfield 16, 3) := by decide +kernel
theorem dX9_tested_21 : decode cX9_tested 21 = .ok (.iload_n 1, 1) := by decide +kernel
theorem dX9_tested_22 : decode cX9_tested 22 = .ok (.iaload, 1) := by decide +kernel
theorem dX9_tested_23 : decode cX9_tested 23 = .ok (.iload_n 1, 1) := by decide +kernel
theorem dX9_tested_24 : decode cX9_tested 24 = .ok (.invokevirtual 97, 3) := by decide +kernel
theorem dX9_tested_27 : decode cX9_tested 27 = .ok (.aload_n 0, 1) := by decide +kernel
theorem dX9_tested_28 : decode cX9_tested 28 = .ok (.getfield 79, 3) := by decide +kernel
theorem dX9_tested_31 : decode cX9_tested 31 = .ok (.ifCond .ge 15, 3) := by decide +kernel
theorem dX9_tested_34 : decode cX9_tested 34 = .ok (.bipush 10, 2) := by decide +kernel
theorem dX9_tested_36 : decode cX9_tested 36 = .ok (.aload_n 0, 1) := by decide +kernel
theorem dX9_tested_37 : decode cX9_tested 37 = .ok (.getfield 19, 3) := by decide +kernel
theorem dX9_tested_40 : decode cX9_tested 40 = .ok (.iload_n 1, 1) := by decide +kernel
theorem dX9_tested_41 : decode cX9_tested 41 = .ok (.iaload, 1) := by decide +kernel
theorem dX9_tested_42 : decode cX9_tested 42 = .ok (.imul, 1) := by decide +kernel
theorem dX9_tested_43 : decode cX9_tested 43 = .ok (.goto 29, 3) := by decide +kernel
theorem dX9_tested_46 : decode cX9_tested 46 = .ok (.aload_n 0, 1) := by decide +kernel
theorem dX9_tested_47 : decode cX9_tested 47 = .ok (.getfield 19, 3) := by decide +kernel
theorem dX9_tested_50 : decode cX9_tested 50 = .ok (.iload_n 1, 1) := by decide +kernel
theorem dX9_tested_51 : decode cX9_tested 51 = .ok (.iaload, 1) := by decide +kernel
theorem dX9_tested_52 : decode cX9_tested 52 = .ok (.aload_n 0, 1) := by decide +kernel
theorem dX9_tested_53 : decode cX9_tested 53 = .ok (.getfield 22, 3) := by decide +kernel
theorem dX9_tested_56 : decode cX9_tested 56 = .ok (.aload_n 0, 1) := by decide +kernel
theorem dX9_tested_57 : decode cX9_tested 57 = .ok (.getfield 79, 3) := by decide +kernel
theorem dX9_tested_60 : decode cX9_tested 60 = .ok (.iaload, 1) := by decide +kernel
theorem dX9_tested_61 : decode cX9_tested 61 = .ok (.imul, 1) := by decide +kernel
theorem dX9_tested_62 : decode cX9_tested 62 = .ok (.aload_n 0, 1) := by decide +kernel
theorem dX9_tested_63 : decode cX9_tested 63 = .ok (.getfield 19, 3) := by decide +kernel
theorem dX9_tested_66 : decode cX9_tested 66 = .ok (.aload_n 0, 1) := by decide +kernel
theorem dX9_tested_67 : decode cX9_tested 67 = .ok (.getfield 79, 3) := by decide +kernel
theorem dX9_tested_70 : decode cX9_tested 70 = .ok (.iaload, 1) := by decide +kernel
theorem dX9_tested_71 : decode cX9_tested 71 = .ok (.idiv, 1) := by decide +kernel
theorem dX9_tested_72 : decode cX9_tested 72 = .ok (.ireturn, 1) := by decide +kernel
set_option maxRecDepth 20000 in
theorem ggX9_list_X9_isDay : GoodIn wsX9_list wsX9_isDay := goodIn_r _ [8, 9, 10, 7, 11] (by decide +kernel) (by decide +kernel)
set_option maxRecDepth 20000 in
theorem gX9_list_X9_isDay : GoodIn wsX9_list (va_wsS RX9 100 yX9_isDay wsX9_isDay) := goodIn_app (goodIn_of _ (by decide +kernel)) ggX9_list_X9_isDay
set_option maxRecDepth 20000 in
theorem ggX9_list_X9_unit : GoodIn wsX9_list wsX9_unit := goodIn_r _ [15, 16, 17, 18, 19, 9, 10, 7, 11, 20, 21, 22, 23, 24, 25, 26, 27, 28, 29, 30, 31, 32, 33, 34, 35, 36, 37, 38, 39, 40, 41, 42, 43, 44, 45, 46, 47, 48, 49, 50, 51, 52, 53, 54, 55, 56, 57, 58, 59, 60] (by decide +kernel) (by decide +kernel)
set_option maxRecDepth 20000 in
theorem gX9_list_X9_unit : GoodIn wsX9_list (wsV RX9 106 RX9 yX9_unit wsX9_unit) := goodIn_app (goodIn_of _ (by decide +kernel)) ggX9_list_X9_unit
theorem dX9_list_0 : decode cX9_list 0 = .ok (.iload_n 1, 1) := by decide +kernel
theorem dX9_list_1 : decode cX9_list 1 = .ok (.invokestatic 100, 3) := by decide +kernel
theorem dX9_list_4 : decode cX9_list 4 = .ok (.ifCond .ne 5, 3) := by decide +kernel
theorem dX9_list_7 : decode cX9_list 7 = .ok (.iconst (-1), 1) := by decide +kernel
theorem dX9_list_8 : decode cX9_list 8 = .ok (.ireturn, 1) := by decide +kernel
theorem dX9_list_9 : decode cX9_list 9 = .ok (.aload_n 0, 1) := by decide +kernel
theorem dX9_list_10 : decode cX9_list 10 = .ok (.getfield 103, 3) := by decide +kernel
theorem dX9_list_13 : decode cX9_list 13 = .ok (.ifCond .le 21, 3) := by decide +kernel
theorem dX9_list_16 : decode cX9_list 16 = .ok (.aload_n 0, 1) := by decide +kernel
theorem dX9_list_17 : decode cX9_list 17 = .ok (.getfield 37, 3) := by decide +kernel
theorem dX9_list_20 : decode cX9_list 20 = .ok (.aload_n 0, 1) := by decide +kernel
theorem dX9_list_21 : decode cX9_list 21 = .ok (.getfield 103, 3) := by decide +kernel
theorem dX9_list_24 : decode cX9_list 24 = .ok (.iconst 1, 1) := by decide +kernel
theorem dX9_list_25 : decode cX9_list 25 = .ok (.isub, 1) := by decide +kernel
theorem dX9_list_26 : decode cX9_list 26 = .ok (.iaload, 1) := by decide +kernel
theorem dX9_list_27 : decode cX9_list 27 = .ok (.iload_n 1, 1) := by decide +kernel
theorem dX9_list_28 : decode cX9_list 28 = .ok (.if_icmp .lt 6, 3) := by decide +kernel
theorem dX9_list_31 : decode cX9_list 31 = .ok (.bipush (-2), 2) := by decide +kernel
theorem dX9_list_33 : decode cX9_list 33 = .ok (.ireturn, 1) := by decide +kernel
theorem dX9_list_34 : decode cX9_list 34 = .ok (.aload_n 0, 1) := by decide +kernel
theorem dX9_list_35 : decode cX9_list 35 = .ok (.getfield 103, 3) := by decide +kernel
theorem dX9_list_38 : decode cX9_list 38 = .ok (.bipush 10, 2) := by decide +kernel
theorem dX9_list_40 : decode cX9_list 40 = .ok (.if_icmp .ne 6, 3) := by decide +kernel
theorem dX9_list_43 : decode cX9_list 43 = .ok (.bipush (-3), 2) := by decide +kernel
theorem dX9_list_45 : decode cX9_list 45 = .ok (.ireturn, 1) := by decide +kernel
theorem dX9_list_46 : decode cX9_list 46 = .ok (.iconst 0, 1) := by decide +kernel
theorem dX9_list_47 : decode cX9_list 47 = .ok (.istore_n 2, 1) := by decide +kernel
theorem dX9_list_48 : decode cX9_list 48 = .ok (.iload_n 2, 1) := by decide +kernel
theorem dX9_list_49 : decode cX9_list 49 = .ok (.iconst 3, 1) := by decide +kernel
theorem dX9_list_50 : decode cX9_list 50 = .ok (.if_icmp .ge 75, 3) := by decide +kernel
theorem dX9_list_53 : decode cX9_list 53 = .ok (.iconst 0, 1) := by decide +kernel
theorem dX9_list_54 : decode cX9_list 54 = .ok (.istore_n 3, 1) := by decide +kernel
theorem dX9_list_55 : decode cX9_list 55 = .ok (.iload_n 3, 1) := by decide +kernel
theorem dX9_list_56 : decode cX9_list 56 = .ok (.bipush 6, 2) := by decide +kernel
theorem dX9_list_58 : decode cX9_list 58 = .ok (.if_icmp .ge 61, 3) := by decide +kernel
theorem dX9_list_61 : decode cX9_list 61 = .ok (.aload_n 0, 1) := by decide +kernel
theorem dX9_list_62 : decode cX9_list 62 = .ok (.getfield 40, 3) := by decide +kernel
theorem dX9_list_65 : decode cX9_list 65 = .ok (.bipush 18, 2) := by decide +kernel
theorem dX9_list_67 : decode cX9_list 67 = .ok (.aload_n 0, 1) := by decide +kernel
theorem dX9_list_68 : decode cX9_list 68 = .ok (.getfield 103, 3) := by decide +kernel
theorem dX9_list_71 : decode cX9_list 71 = .ok (.imul, 1) := by decide +kernel
theorem dX9_list_72 : decode cX9_list 72 = .ok (.bipush 6, 2) := by decide +kernel
theorem dX9_list_74 : decode cX9_list 74 = .ok (.iload_n 2, 1) := by decide +kernel
theorem dX9_list_75 : decode cX9_list 75 = .ok (.imul, 1) := by decide +kernel
theorem dX9_list_76 : decode cX9_list 76 = .ok (.iadd, 1) := by decide +kernel
theorem dX9_list_77 : decode cX9_list 77 = .ok (.iload_n 3, 1) := by decide +kernel
theorem dX9_list_78 : decode cX9_list 78 = .ok (.iadd, 1) := by decide +kernel
theorem dX9_list_79 : decode cX9_list 79 = .ok (.aload_n 0, 1) := by decide +kernel
theorem dX9_list_80 : decode cX9_list 80 = .ok (.iload_n 2, 1) := by decide +kernel
theorem dX9_list_81 : decode cX9_list 81 = .ok (.iload_n 3, 1) := by decide +kernel
theorem dX9_list_82 : decode cX9_list 82 = .ok (.iconst 0, 1) := by decide +kernel
theorem dX9_list_83 : decode cX9_list 83 = .ok (.invokevirtual 106, 3) := by decide +kernel
theorem dX9_list_86 : decode cX9_list 86 = .ok (.iastore, 1) := by decide +kernel
theorem dX9_list_87 : decode cX9_list 87 = .ok (.aload_n 0, 1) := by decide +kernel
theorem dX9_list_88 : decode cX9_list 88 = .ok (.getfield 43, 3) := by decide +kernel
theorem dX9_list_91 : decode cX9_list 91 = .ok (.bipush 18, 2) := by decide +kernel
theorem dX9_list_93 : decode cX9_list 93 = .ok (.aload_n 0, 1) := by decide +kernel
theorem dX9_list_94 : decode cX9_list 94 = .ok (.getfield 103, 3) := by decide +kernel
theorem dX9_list_97 : decode cX9_list 97 = .ok (.imul, 1) := by decide +kernel
theorem dX9_list_98 : decode cX9_list 98 = .ok (.bipush 6, 2) := by decide +kernel
theorem dX9_list_100 : decode cX9_list 100 = .ok (.iload_n 2, 1) := by decide +kernel
theorem dX9_list_101 : decode cX9_list 101 = .ok (.imul, 1) := by decide +kernel
theorem dX9_list_102 : decode cX9_list 102 = .ok (.iadd, 1) := by decide +kernel
theorem dX9_list_103 : decode cX9_list 103 = .ok (.iload_n 3, 1) := by decide +kernel
theorem dX9_list_104 : decode cX9_list 104 = .ok (.iadd, 1) := by decide +kernel
theorem dX9_list_105 : decode cX9_list 105 = .ok (.aload_n 0, 1) := by decide +kernel
theorem dX9_list_106 : decode cX9_list 106 = .ok (.iload_n 2, 1) := by decide +kernel
theorem dX9_list_107 : decode cX9_list 107 = .ok (.iload_n 3, 1) := by decide +kernel
theorem dX9_list_108 : decode cX9_list 108 = .ok (.iconst 1, 1) := by decide +kernel
theorem dX9_list_109 : decode cX9_list 109 = .ok (.invokevirtual 106, 3) := by decide +kernel
theorem dX9_list_112 : decode cX9_list 112 = .ok (.iastore, 1) := by decide +kernel
theorem dX9_list_113 : decode cX9_list 113 = .ok (.iinc 3 1, 3) := by decide +kernel
theorem dX9_list_116 : decode cX9_list 116 = .ok (.goto (-61), 3) := by decide +kernel
theorem dX9_list_119 : decode cX9_list 119 = .ok (.iinc 2 1, 3) := by decide +kernel
theorem dX9_list_122 : decode cX9_list 122 = .ok (.goto (-74), 3) := by decide +kernel
theorem dX9_list_125 : decode cX9_list 125 = .ok (.aload_n 0, 1) := by decide +kernel
theorem dX9_list_126 : decode cX9_list 126 = .ok (.getfield 37, 3) := by decide +kernel
theorem dX9_list_129 : decode cX9_list 129 = .ok (.aload_n 0, 1) := by decide +kernel
theorem dX9_list_130 : decode cX9_list 130 = .ok (.getfield 103, 3) := by decide +kernel
theorem dX9_list_133 : decode cX9_list 133 = .ok (.iload_n 1, 1) := by decide +kernel
theorem dX9_list_134 : decode cX9_list 134 = .ok (.iastore, 1) := by decide +kernel
theorem dX9_list_135 : decode cX9_list 135 = .ok (.aload_n 0, 1) := by decide +kernel
theorem dX9_list_136 : decode cX9_list 136 = .ok (.dup, 1) := by decide +kernel
theorem dX9_list_137 : decode cX9_list 137 = .ok (.getfield 103, 3) := by decide +kernel
theorem dX9_list_140 : decode cX9_list 140 = .ok (.iconst 1, 1) := by decide +kernel
theorem dX9_list_141 : decode cX9_list 141 = .ok (.iadd, 1) := by decide +kernel
theorem dX9_list_142 : decode cX9_list 142 = .ok (.putfield 103, 3) := by decide +kernel
theorem dX9_list_145 : decode cX9_list 145 = .ok (.aload_n 0, 1) := by decide +kernel
theorem dX9_list_146 : decode cX9_list 146 = .ok (.getfield 103, 3) := by decide +kernel
theorem dX9_list_149 : decode cX9_list 149 = .ok (.iconst 1, 1) := by decide +kernel
theorem dX9_list_150 : decode cX9_list 150 = .ok (.isub, 1) := by decide +kernel
theorem dX9_list_151 : decode cX9_list 151 = .ok (.ireturn, 1) := by decide +kernel
set_option maxRecDepth 20000 in
theorem ggX9_isValue_X9_in : GoodIn wsX9_isValue wsX9_in := goodIn_r _ [4] (by decide +kernel) (by decide +kernel)
set_option maxRecDepth 20000 in
theorem gX9_isValue_X9_in : GoodIn wsX9_isValue (va_wsS RX9 70 yX9_in wsX9_in) := goodIn_app (goodIn_of _ (by decide +kernel)) ggX9_isValue_X9_in
theorem dX9_isValue_0 : decode cX9_isValue 0 = .ok (.iload_n 0, 1) := by decide +kernel
theorem dX9_isValue_1 : decode cX9_isValue 1 = .ok (.ifCond .ne 14, 3) := by decide +kernel
theorem dX9_isValue_4 : decode cX9_isValue 4 = .ok (.iload_n 1, 1) := by decide +kernel
theorem dX9_isValue_5 : decode cX9_isValue 5 = .ok (.iconst 1, 1) := by decide +kernel
theorem dX9_isValue_6 : decode cX9_isValue 6 = .ok (.sipush 500, 3) := by decide +kernel
theorem dX9_isValue_9 : decode cX9_isValue 9 = .ok (.invokestatic 70, 3) := by decide +kernel
theorem dX9_isValue_12 : decode cX9_isValue 12 = .ok (.goto 38, 3) := by decide +kernel
theorem dX9_isValue_15 : decode cX9_isValue 15 = .ok (.iload_n 0, 1) := by decide +kernel
theorem dX9_isValue_16 : decode cX9_isValue 16 = .ok (.iconst 1, 1) := by decide +kernel
theorem dX9_isValue_17 : decode cX9_isValue 17 = .ok (.if_icmp .ne 12, 3) := by decide +kernel
theorem dX9_isValue_20 : decode cX9_isValue 20 = .ok (.iload_n 1, 1) := by decide +kernel
theorem dX9_isValue_21 : decode cX9_isValue 21 = .ok (.iconst 0, 1) := by decide +kernel
theorem dX9_isValue_22 : decode cX9_isValue 22 = .ok (.iconst 3, 1) := by decide +kernel
theorem dX9_isValue_23 : decode cX9_isValue 23 = .ok (.invokestatic 70, 3) := by decide +kernel
theorem dX9_isValue_26 : decode cX9_isValue 26 = .ok (.goto 24, 3) := by decide +kernel
theorem dX9_isValue_29 : decode cX9_isValue 29 = .ok (.iload_n 0, 1) := by decide +kernel
theorem dX9_isValue_30 : decode cX9_isValue 30 = .ok (.iconst 2, 1) := by decide +kernel
theorem dX9_isValue_31 : decode cX9_isValue 31 = .ok (.if_icmp .ne 18, 3) := by decide +kernel
theorem dX9_isValue_34 : decode cX9_isValue 34 = .ok (.iload_n 1, 1) := by decide +kernel
theorem dX9_isValue_35 : decode cX9_isValue 35 = .ok (.iconst 1, 1) := by decide +kernel
theorem dX9_isValue_36 : decode cX9_isValue 36 = .ok (.sipush 900, 3) := by decide +kernel
theorem dX9_isValue_39 : decode cX9_isValue 39 = .ok (.invokestatic 70, 3) := by decide +kernel
theorem dX9_isValue_42 : decode cX9_isValue 42 = .ok (.ifCond .eq 7, 3) := by decide +kernel
theorem dX9_isValue_45 : decode cX9_isValue 45 = .ok (.iconst 1, 1) := by decide +kernel
theorem dX9_isValue_46 : decode cX9_isValue 46 = .ok (.goto 4, 3) := by decide +kernel
theorem dX9_isValue_49 : decode cX9_isValue 49 = .ok (.iconst 0, 1) := by decide +kernel
theorem dX9_isValue_50 : decode cX9_isValue 50 = .ok (.ireturn, 1) := by decide +kernel
theorem dX9_adds_0 : decode cX9_adds 0 = .ok (.bipush 12, 2) := by decide +kernel
theorem dX9_adds_2 : decode cX9_adds 2 = .ok (.iload_n 1, 1) := by decide +kernel
theorem dX9_adds_3 : decode cX9_adds 3 = .ok (.imul, 1) := by decide +kernel
theorem dX9_adds_4 : decode cX9_adds 4 = .ok (.aload_n 0, 1) := by decide +kernel
theorem dX9_adds_5 : decode cX9_adds 5 = .ok (.getfield 25, 3) := by decide +kernel
theorem dX9_adds_8 : decode cX9_adds 8 = .ok (.iload_n 1, 1) := by decide +kernel
theorem dX9_adds_9 : decode cX9_adds 9 = .ok (.iaload, 1) := by decide +kernel
theorem dX9_adds_10 : decode cX9_adds 10 = .ok (.iadd, 1) := by decide +kernel
theorem dX9_adds_11 : decode cX9_adds 11 = .ok (.istore 5, 2) := by decide +kernel
theorem dX9_adds_13 : decode cX9_adds 13 = .ok (.aload_n 0, 1) := by decide +kernel
theorem dX9_adds_14 : decode cX9_adds 14 = .ok (.getfield 28, 3) := by decide +kernel
theorem dX9_adds_17 : decode cX9_adds 17 = .ok (.iload 5, 2) := by decide +kernel
theorem dX9_adds_19 : decode cX9_adds 19 = .ok (.iload_n 2, 1) := by decide +kernel
theorem dX9_adds_20 : decode cX9_adds 20 = .ok (.iastore, 1) := by decide +kernel
theorem dX9_adds_21 : decode cX9_adds 21 = .ok (.aload_n 0, 1) := by decide +kernel
theorem dX9_adds_22 : decode cX9_adds 22 = .ok (.getfield 31, 3) := by decide +kernel
theorem dX9_adds_25 : decode cX9_adds 25 = .ok (.iload 5, 2) := by decide +kernel
theorem dX9_adds_27 : decode cX9_adds 27 = .ok (.iload_n 3, 1) := by decide +kernel
theorem dX9_adds_28 : decode cX9_adds 28 = .ok (.iastore, 1) := by decide +kernel
theorem dX9_adds_29 : decode cX9_adds 29 = .ok (.aload_n 0, 1) := by decide +kernel
theorem dX9_adds_30 : decode cX9_adds 30 = .ok (.getfield 34, 3) := by decide +kernel
theorem dX9_adds_33 : decode cX9_adds 33 = .ok (.iload 5, 2) := by decide +kernel
theorem dX9_adds_35 : decode cX9_adds 35 = .ok (.iload 4, 2) := by decide +kernel
theorem dX9_adds_37 : decode cX9_adds 37 = .ok (.iastore, 1) := by decide +kernel
theorem dX9_adds_38 : decode cX9_adds 38 = .ok (.aload_n 0, 1) := by decide +kernel
theorem dX9_adds_39 : decode cX9_adds 39 = .ok (.getfield 25, 3) := by decide +kernel
theorem dX9_adds_42 : decode cX9_adds 42 = .ok (.iload_n 1, 1) := by decide +kernel
theorem dX9_adds_43 : decode cX9_adds 43 = .ok (.dup2, 1) := by decide +kernel
theorem dX9_adds_44 : decode cX9_adds 44 = .ok (.iaload, 1) := by decide +kernel
theorem dX9_adds_45 : decode cX9_adds 45 = .ok (.iconst 1, 1) := by decide +kernel
theorem dX9_adds_46 : decode cX9_adds 46 = .ok (.iadd, 1) := by decide +kernel
theorem dX9_adds_47 : decode cX9_adds 47 = .ok (.iastore, 1) := by decide +kernel
theorem dX9_adds_48 : decode cX9_adds 48 = .ok (.return_, 1) := by decide +kernel
set_option maxRecDepth 20000 in
theorem ggX9_event_X9_isHouse : GoodIn wsX9_event wsX9_isHouse := goodIn_r _ [6, 7, 8, 9, 5, 10, 24, 25, 26, 27, 28, 29, 30, 31, 32, 33, 34, 35, 36, 37, 38, 39, 40, 41, 42, 43, 44, 45] (by decide +kernel) (by decide +kernel)
set_option maxRecDepth 20000 in
theorem gX9_event_X9_isHouse : GoodIn wsX9_event (wsV RX9 75 RX9 yX9_isHouse wsX9_isHouse) := goodIn_app (goodIn_of _ (by decide +kernel)) ggX9_event_X9_isHouse
set_option maxRecDepth 20000 in
theorem ggX9_event_X9_isDay : GoodIn wsX9_event wsX9_isDay := goodIn_r _ [13, 8, 9, 5, 10] (by decide +kernel) (by decide +kernel)
set_option maxRecDepth 20000 in
theorem gX9_event_X9_isDay : GoodIn wsX9_event (va_wsS RX9 100 yX9_isDay wsX9_isDay) := goodIn_app (goodIn_of _ (by decide +kernel)) ggX9_event_X9_isDay
set_option maxRecDepth 20000 in
theorem ggX9_event_X9_isValue : GoodIn wsX9_event wsX9_isValue := goodIn_r _ [16, 8, 9, 5, 10] (by decide +kernel) (by decide +kernel)
set_option maxRecDepth 20000 in
theorem gX9_event_X9_isValue : GoodIn wsX9_event (va_wsS RX9 110 yX9_isValue wsX9_isValue) := goodIn_app (goodIn_of _ (by decide +kernel)) ggX9_event_X9_isValue
set_option maxRecDepth 20000 in
theorem ggX9_event_X9_adds : GoodIn wsX9_event wsX9_adds := goodIn_r _ [20, 1, 21, 22, 23, 24, 25, 26, 27, 28, 29, 30, 31, 32, 33, 34, 35, 36, 37, 38, 39, 40, 41, 42, 43, 44, 45] (by decide +kernel) (by decide +kernel)
set_option maxRecDepth 20000 in
theorem gX9_event_X9_adds : GoodIn wsX9_event (wsV RX9 113 RX9 yX9_adds wsX9_adds) := goodIn_app (goodIn_of _ (by decide +kernel)) ggX9_event_X9_adds
theorem dX9_event_0 : decode cX9_event 0 = .ok (.aload_n 0, 1) := by decide +kernel
theorem dX9_event_1 : decode cX9_event 1 = .ok (.iload_n 1, 1) := by decide +kernel
theorem dX9_event_2 : decode cX9_event 2 = .ok (.invokevirtual 75, 3) := by decide +kernel
theorem dX9_event_5 : decode cX9_event 5 = .ok (.ifCond .eq 19, 3) := by decide +kernel
theorem dX9_event_8 : decode cX9_event 8 = .ok (.iload_n 2, 1) := by decide +kernel
theorem dX9_event_9 : decode cX9_event 9 = .ok (.invokestatic 100, 3) := by decide +kernel
theorem dX9_event_12 : decode cX9_event 12 = .ok (.ifCond .eq 12, 3) := by decide +kernel
theorem dX9_event_15 : decode cX9_event 15 = .ok (.iload_n 3, 1) := by decide +kernel
theorem dX9_event_16 : decode cX9_event 16 = .ok (.iload 4, 2) := by decide +kernel
theorem dX9_event_18 : decode cX9_event 18 = .ok (.invokestatic 110, 3) := by decide +kernel
theorem dX9_event_21 : decode cX9_event 21 = .ok (.ifCond .ne 5, 3) := by decide +kernel
theorem dX9_event_24 : decode cX9_event 24 = .ok (.iconst (-1), 1) := by decide +kernel
theorem dX9_event_25 : decode cX9_event 25 = .ok (.ireturn, 1) := by decide +kernel
theorem dX9_event_26 : decode cX9_event 26 = .ok (.aload_n 0, 1) := by decide +kernel
theorem dX9_event_27 : decode cX9_event 27 = .ok (.getfield 25, 3) := by decide +kernel
theorem dX9_event_30 : decode cX9_event 30 = .ok (.iload_n 1, 1) := by decide +kernel
theorem dX9_event_31 : decode cX9_event 31 = .ok (.iaload, 1) := by decide +kernel
theorem dX9_event_32 : decode cX9_event 32 = .ok (.bipush 12, 2) := by decide +kernel
theorem dX9_event_34 : decode cX9_event 34 = .ok (.if_icmp .ne 6, 3) := by decide +kernel
theorem dX9_event_37 : decode cX9_event 37 = .ok (.bipush (-3), 2) := by decide +kernel
theorem dX9_event_39 : decode cX9_event 39 = .ok (.ireturn, 1) := by decide +kernel
theorem dX9_event_40 : decode cX9_event 40 = .ok (.aload_n 0, 1) := by decide +kernel
theorem dX9_event_41 : decode cX9_event 41 = .ok (.iload_n 1, 1) := by decide +kernel
theorem dX9_event_42 : decode cX9_event 42 = .ok (.iload_n 2, 1) := by decide +kernel
theorem dX9_event_43 : decode cX9_event 43 = .ok (.iload_n 3, 1) := by decide +kernel
theorem dX9_event_44 : decode cX9_event 44 = .ok (.iload 4, 2) := by decide +kernel
theorem dX9_event_46 : decode cX9_event 46 = .ok (.invokevirtual 113, 3) := by decide +kernel
theorem dX9_event_49 : decode cX9_event 49 = .ok (.aload_n 0, 1) := by decide +kernel
theorem dX9_event_50 : decode cX9_event 50 = .ok (.getfield 25, 3) := by decide +kernel
theorem dX9_event_53 : decode cX9_event 53 = .ok (.iload_n 1, 1) := by decide +kernel
theorem dX9_event_54 : decode cX9_event 54 = .ok (.iaload, 1) := by decide +kernel
theorem dX9_event_55 : decode cX9_event 55 = .ok (.ireturn, 1) := by decide +kernel
theorem dX9_isLike_0 : decode cX9_isLike 0 = .ok (.aload_n 0, 1) := by decide +kernel
theorem dX9_isLike_1 : decode cX9_isLike 1 = .ok (.getfield 13, 3) := by decide +kernel
theorem dX9_isLike_4 : decode cX9_isLike 4 = .ok (.iload_n 1, 1) := by decide +kernel
theorem dX9_isLike_5 : decode cX9_isLike 5 = .ok (.iaload, 1) := by decide +kernel
theorem dX9_isLike_6 : decode cX9_isLike 6 = .ok (.aload_n 0, 1) := by decide +kernel
theorem dX9_isLike_7 : decode cX9_isLike 7 = .ok (.getfield 13, 3) := by decide +kernel
theorem dX9_isLike_10 : decode cX9_isLike 10 = .ok (.iload_n 2, 1) := by decide +kernel
theorem dX9_isLike_11 : decode cX9_isLike 11 = .ok (.iaload, 1) := by decide +kernel
theorem dX9_isLike_12 : decode cX9_isLike 12 = .ok (.if_icmp .ne 22, 3) := by decide +kernel
theorem dX9_isLike_15 : decode cX9_isLike 15 = .ok (.aload_n 0, 1) := by decide +kernel
theorem dX9_isLike_16 : decode cX9_isLike 16 = .ok (.getfield 16, 3) := by decide +kernel
theorem dX9_isLike_19 : decode cX9_isLike 19 = .ok (.iload_n 1, 1) := by decide +kernel
theorem dX9_isLike_20 : decode cX9_isLike 20 = .ok (.iaload, 1) := by decide +kernel
theorem dX9_isLike_21 : decode cX9_isLike 21 = .ok (.aload_n 0, 1) := by decide +kernel
theorem dX9_isLike_22 : decode cX9_isLike 22 = .ok (.getfield 16, 3) := by decide +kernel
theorem dX9_isLike_25 : decode cX9_isLike 25 = .ok (.iload_n 2, 1) := by decide +kernel
theorem dX9_isLike_26 : decode cX9_isLike 26 = .ok (.iaload, 1) := by decide +kernel
theorem dX9_isLike_27 : decode cX9_isLike 27 = .ok (.if_icmp .ne 7, 3) := by decide +kernel
theorem dX9_isLike_30 : decode cX9_isLike 30 = .ok (.iconst 1, 1) := by decide +kernel
theorem dX9_isLike_31 : decode cX9_isLike 31 = .ok (.goto 4, 3) := by decide +kernel
theorem dX9_isLike_34 : decode cX9_isLike 34 = .ok (.iconst 0, 1) := by decide +kernel
theorem dX9_isLike_35 : decode cX9_isLike 35 = .ok (.ireturn, 1) := by decide +kernel
end
section
set_option maxRecDepth 20000 in
theorem ggX9_appeal_X9_isHouse : GoodIn wsX9_appeal wsX9_isHouse := goodIn_r _ [7, 1, 8, 9, 6, 10, 27, 28, 29, 30, 31, 32, 33, 34, 35, 36, 37, 38, 39, 40, 41, 42, 43, 44, 45, 46, 47, 48] (by decide +kernel) (by decide +kernel)
set_option maxRecDepth 20000 in
theorem gX9_appeal_X9_isHouse : GoodIn wsX9_appeal (wsV RX9 75 RX9 yX9_isHouse wsX9_isHouse) := goodIn_app (goodIn_of _ (by decide +kernel)) ggX9_appeal_X9_isHouse
set_option maxRecDepth 20000 in
theorem ggX9_appeal_X9_isDay : GoodIn wsX9_appeal wsX9_isDay := goodIn_r _ [13, 8, 9, 6, 10] (by decide +kernel) (by decide +kernel)
set_option maxRecDepth 20000 in
theorem gX9_appeal_X9_isDay : GoodIn wsX9_appeal (va_wsS RX9 100 yX9_isDay wsX9_isDay) := goodIn_app (goodIn_of _ (by decide +kernel)) ggX9_appeal_X9_isDay
set_option maxRecDepth 20000 in
theorem ggX9_appeal_X9_in : GoodIn wsX9_appeal wsX9_in := goodIn_r _ [10] (by decide +kernel) (by decide +kernel)
set_option maxRecDepth 20000 in
theorem gX9_appeal_X9_in : GoodIn wsX9_appeal (va_wsS RX9 70 yX9_in wsX9_in) := goodIn_app (goodIn_of _ (by decide +kernel)) ggX9_appeal_X9_in
set_option maxRecDepth 20000 in
theorem ggX9_appeal_X9_isLike : GoodIn wsX9_appeal wsX9_isLike := goodIn_r _ [17, 18, 19, 27, 28, 29, 30, 31, 32, 33, 34, 35, 36, 37, 38, 39, 40, 41, 42, 43, 44, 45, 46, 47, 48] (by decide +kernel) (by decide +kernel)
set_option maxRecDepth 20000 in
theorem gX9_appeal_X9_isLike : GoodIn wsX9_appeal (wsV RX9 117 RX9 yX9_isLike wsX9_isLike) := goodIn_app (goodIn_of _ (by decide +kernel)) ggX9_appeal_X9_isLike
set_option maxRecDepth 20000 in
theorem ggX9_appeal_X9_adds : GoodIn wsX9_appeal wsX9_adds := goodIn_r _ [23, 2, 24, 25, 26, 27, 28, 29, 30, 31, 32, 33, 34, 35, 36, 37, 38, 39, 40, 41, 42, 43, 44, 45, 46, 47, 48] (by decide +kernel) (by decide +kernel)
set_option maxRecDepth 20000 in
theorem gX9_appeal_X9_adds : GoodIn wsX9_appeal (wsV RX9 113 RX9 yX9_adds wsX9_adds) := goodIn_app (goodIn_of _ (by decide +kernel)) ggX9_appeal_X9_adds
theorem dX9_appeal_0 : decode cX9_appeal 0 = .ok (.aload_n 0, 1) := by decide +kernel
theorem dX9_appeal_1 : decode cX9_appeal 1 = .ok (.iload_n 1, 1) := by decide +kernel
theorem dX9_appeal_2 : decode cX9_appeal 2 = .ok (.invokevirtual 75, 3) := by decide +kernel
theorem dX9_appeal_5 : decode cX9_appeal 5 = .ok (.ifCond .eq 21, 3) := by decide +kernel
theorem dX9_appeal_8 : decode cX9_appeal 8 = .ok (.iload_n 2, 1) := by decide +kernel
theorem dX9_appeal_9 : decode cX9_appeal 9 = .ok (.invokestatic 100, 3) := by decide +kernel
theorem dX9_appeal_12 : decode cX9_appeal 12 = .ok (.ifCond .eq 14, 3) := by decide +kernel
theorem dX9_appeal_15 : decode cX9_appeal 15 = .ok (.iload_n 3, 1) := by decide +kernel
theorem dX9_appeal_16 : decode cX9_appeal 16 = .ok (.iconst 1, 1) := by decide +kernel
theorem dX9_appeal_17 : decode cX9_appeal 17 = .ok (.sipush 900, 3) := by decide +kernel
theorem dX9_appeal_20 : decode cX9_appeal 20 = .ok (.invokestatic 70, 3) := by decide +kernel
theorem dX9_appeal_23 : decode cX9_appeal 23 = .ok (.ifCond .ne 5, 3) := by decide +kernel
theorem dX9_appeal_26 : decode cX9_appeal 26 = .ok (.iconst (-1), 1) := by decide +kernel
theorem dX9_appeal_27 : decode cX9_appeal 27 = .ok (.ireturn, 1) := by decide +kernel
theorem dX9_appeal_28 : decode cX9_appeal 28 = .ok (.iconst 0, 1) := by decide +kernel
theorem dX9_appeal_29 : decode cX9_appeal 29 = .ok (.istore 5, 2) := by decide +kernel
theorem dX9_appeal_31 : decode cX9_appeal 31 = .ok (.iload 5, 2) := by decide +kernel
theorem dX9_appeal_33 : decode cX9_appeal 33 = .ok (.aload_n 0, 1) := by decide +kernel
theorem dX9_appeal_34 : decode cX9_appeal 34 = .ok (.getfield 66, 3) := by decide +kernel
theorem dX9_appeal_37 : decode cX9_appeal 37 = .ok (.if_icmp .ge 45, 3) := by decide +kernel
theorem dX9_appeal_40 : decode cX9_appeal 40 = .ok (.iload 5, 2) := by decide +kernel
theorem dX9_appeal_42 : decode cX9_appeal 42 = .ok (.iload_n 1, 1) := by decide +kernel
theorem dX9_appeal_43 : decode cX9_appeal 43 = .ok (.if_icmp .eq 18, 3) := by decide +kernel
theorem dX9_appeal_46 : decode cX9_appeal 46 = .ok (.iload 4, 2) := by decide +kernel
theorem dX9_appeal_48 : decode cX9_appeal 48 = .ok (.ifCond .eq 28, 3) := by decide +kernel
theorem dX9_appeal_51 : decode cX9_appeal 51 = .ok (.aload_n 0, 1) := by decide +kernel
theorem dX9_appeal_52 : decode cX9_appeal 52 = .ok (.iload 5, 2) := by decide +kernel
theorem dX9_appeal_54 : decode cX9_appeal 54 = .ok (.iload_n 1, 1) := by decide +kernel
theorem dX9_appeal_55 : decode cX9_appeal 55 = .ok (.invokevirtual 117, 3) := by decide +kernel
theorem dX9_appeal_58 : decode cX9_appeal 58 = .ok (.ifCond .eq 18, 3) := by decide +kernel
theorem dX9_appeal_61 : decode cX9_appeal 61 = .ok (.aload_n 0, 1) := by decide +kernel
theorem dX9_appeal_62 : decode cX9_appeal 62 = .ok (.getfield 25, 3) := by decide +kernel
theorem dX9_appeal_65 : decode cX9_appeal 65 = .ok (.iload 5, 2) := by decide +kernel
theorem dX9_appeal_67 : decode cX9_appeal 67 = .ok (.iaload, 1) := by decide +kernel
theorem dX9_appeal_68 : decode cX9_appeal 68 = .ok (.bipush 12, 2) := by decide +kernel
theorem dX9_appeal_70 : decode cX9_appeal 70 = .ok (.if_icmp .ne 6, 3) := by decide +kernel
theorem dX9_appeal_73 : decode cX9_appeal 73 = .ok (.bipush (-3), 2) := by decide +kernel
theorem dX9_appeal_75 : decode cX9_appeal 75 = .ok (.ireturn, 1) := by decide +kernel
theorem dX9_appeal_76 : decode cX9_appeal 76 = .ok (.iinc 5 1, 3) := by decide +kernel
theorem dX9_appeal_79 : decode cX9_appeal 79 = .ok (.goto (-48), 3) := by decide +kernel
theorem dX9_appeal_82 : decode cX9_appeal 82 = .ok (.iconst 0, 1) := by decide +kernel
theorem dX9_appeal_83 : decode cX9_appeal 83 = .ok (.istore 5, 2) := by decide +kernel
theorem dX9_appeal_85 : decode cX9_appeal 85 = .ok (.iconst 0, 1) := by decide +kernel
theorem dX9_appeal_86 : decode cX9_appeal 86 = .ok (.istore 6, 2) := by decide +kernel
theorem dX9_appeal_88 : decode cX9_appeal 88 = .ok (.iload 6, 2) := by decide +kernel
theorem dX9_appeal_90 : decode cX9_appeal 90 = .ok (.aload_n 0, 1) := by decide +kernel
theorem dX9_appeal_91 : decode cX9_appeal 91 = .ok (.getfield 66, 3) := by decide +kernel
theorem dX9_appeal_94 : decode cX9_appeal 94 = .ok (.if_icmp .ge 42, 3) := by decide +kernel
theorem dX9_appeal_97 : decode cX9_appeal 97 = .ok (.iload 6, 2) := by decide +kernel
theorem dX9_appeal_99 : decode cX9_appeal 99 = .ok (.iload_n 1, 1) := by decide +kernel
theorem dX9_appeal_100 : decode cX9_appeal 100 = .ok (.if_icmp .eq 18, 3) := by decide +kernel
theorem dX9_appeal_103 : decode cX9_appeal 103 = .ok (.iload 4, 2) := by decide +kernel
theorem dX9_appeal_105 : decode cX9_appeal 105 = .ok (.ifCond .eq 25, 3) := by decide +kernel
theorem dX9_appeal_108 : decode cX9_appeal 108 = .ok (.aload_n 0, 1) := by decide +kernel
theorem dX9_appeal_109 : decode cX9_appeal 109 = .ok (.iload 6, 2) := by decide +kernel
theorem dX9_appeal_111 : decode cX9_appeal 111 = .ok (.iload_n 1, 1) := by decide +kernel
theorem dX9_appeal_112 : decode cX9_appeal 112 = .ok (.invokevirtual 117, 3) := by decide +kernel
theorem dX9_appeal_115 : decode cX9_appeal 115 = .ok (.ifCond .eq 15, 3) := by decide +kernel
theorem dX9_appeal_118 : decode cX9_appeal 118 = .ok (.aload_n 0, 1) := by decide +kernel
theorem dX9_appeal_119 : decode cX9_appeal 119 = .ok (.iload 6, 2) := by decide +kernel
theorem dX9_appeal_121 : decode cX9_appeal 121 = .ok (.iload_n 2, 1) := by decide +kernel
theorem dX9_appeal_122 : decode cX9_appeal 122 = .ok (.iconst 2, 1) := by decide +kernel
theorem dX9_appeal_123 : decode cX9_appeal 123 = .ok (.iload_n 3, 1) := by decide +kernel
theorem dX9_appeal_124 : decode cX9_appeal 124 = .ok (.invokevirtual 113, 3) := by decide +kernel
theorem dX9_appeal_127 : decode cX9_appeal 127 = .ok (.iinc 5 1, 3) := by decide +kernel
theorem dX9_appeal_130 : decode cX9_appeal 130 = .ok (.iinc 6 1, 3) := by decide +kernel
theorem dX9_appeal_133 : decode cX9_appeal 133 = .ok (.goto (-45), 3) := by decide +kernel
theorem dX9_appeal_136 : decode cX9_appeal 136 = .ok (.iload 5, 2) := by decide +kernel
theorem dX9_appeal_138 : decode cX9_appeal 138 = .ok (.ireturn, 1) := by decide +kernel
set_option maxRecDepth 20000 in
theorem ggX9_strike_X9_isHouse : GoodIn wsX9_strike wsX9_isHouse := goodIn_r _ [6, 7, 8, 9, 5, 10, 11, 12, 13, 14, 15, 16, 17, 18, 19, 20, 21, 22, 23, 24, 25, 26, 27, 28, 29, 30, 31, 32] (by decide +kernel) (by decide +kernel)
set_option maxRecDepth 20000 in
theorem gX9_strike_X9_isHouse : GoodIn wsX9_strike (wsV RX9 75 RX9 yX9_isHouse wsX9_isHouse) := goodIn_app (goodIn_of _ (by decide +kernel)) ggX9_strike_X9_isHouse
theorem dX9_strike_0 : decode cX9_strike 0 = .ok (.aload_n 0, 1) := by decide +kernel
theorem dX9_strike_1 : decode cX9_strike 1 = .ok (.iload_n 1, 1) := by decide +kernel
theorem dX9_strike_2 : decode cX9_strike 2 = .ok (.invokevirtual 75, 3) := by decide +kernel
theorem dX9_strike_5 : decode cX9_strike 5 = .ok (.ifCond .ne 5, 3) := by decide +kernel
theorem dX9_strike_8 : decode cX9_strike 8 = .ok (.iconst (-1), 1) := by decide +kernel
theorem dX9_strike_9 : decode cX9_strike 9 = .ok (.ireturn, 1) := by decide +kernel
theorem dX9_strike_10 : decode cX9_strike 10 = .ok (.aload_n 0, 1) := by decide +kernel
theorem dX9_strike_11 : decode cX9_strike 11 = .ok (.getfield 25, 3) := by decide +kernel
theorem dX9_strike_14 : decode cX9_strike 14 = .ok (.iload_n 1, 1) := by decide +kernel
theorem dX9_strike_15 : decode cX9_strike 15 = .ok (.iaload, 1) := by decide +kernel
theorem dX9_strike_16 : decode cX9_strike 16 = .ok (.ifCond .ne 6, 3) := by decide +kernel
theorem dX9_strike_19 : decode cX9_strike 19 = .ok (.bipush (-2), 2) := by decide +kernel
theorem dX9_strike_21 : decode cX9_strike 21 = .ok (.ireturn, 1) := by decide +kernel
theorem dX9_strike_22 : decode cX9_strike 22 = .ok (.aload_n 0, 1) := by decide +kernel
theorem dX9_strike_23 : decode cX9_strike 23 = .ok (.getfield 25, 3) := by decide +kernel
theorem dX9_strike_26 : decode cX9_strike 26 = .ok (.iload_n 1, 1) := by decide +kernel
theorem dX9_strike_27 : decode cX9_strike 27 = .ok (.dup2, 1) := by decide +kernel
theorem dX9_strike_28 : decode cX9_strike 28 = .ok (.iaload, 1) := by decide +kernel
theorem dX9_strike_29 : decode cX9_strike 29 = .ok (.iconst 1, 1) := by decide +kernel
theorem dX9_strike_30 : decode cX9_strike 30 = .ok (.isub, 1) := by decide +kernel
theorem dX9_strike_31 : decode cX9_strike 31 = .ok (.iastore, 1) := by decide +kernel
theorem dX9_strike_32 : decode cX9_strike 32 = .ok (.aload_n 0, 1) := by decide +kernel
theorem dX9_strike_33 : decode cX9_strike 33 = .ok (.getfield 25, 3) := by decide +kernel
theorem dX9_strike_36 : decode cX9_strike 36 = .ok (.iload_n 1, 1) := by decide +kernel
theorem dX9_strike_37 : decode cX9_strike 37 = .ok (.iaload, 1) := by decide +kernel
theorem dX9_strike_38 : decode cX9_strike 38 = .ok (.ireturn, 1) := by decide +kernel
theorem dX9_counting_0 : decode cX9_counting 0 = .ok (.iconst (-1), 1) := by decide +kernel
theorem dX9_counting_1 : decode cX9_counting 1 = .ok (.istore 4, 2) := by decide +kernel
theorem dX9_counting_3 : decode cX9_counting 3 = .ok (.bipush 12, 2) := by decide +kernel
theorem dX9_counting_5 : decode cX9_counting 5 = .ok (.iload_n 1, 1) := by decide +kernel
theorem dX9_counting_6 : decode cX9_counting 6 = .ok (.imul, 1) := by decide +kernel
theorem dX9_counting_7 : decode cX9_counting 7 = .ok (.istore 5, 2) := by decide +kernel
theorem dX9_counting_9 : decode cX9_counting 9 = .ok (.iload 5, 2) := by decide +kernel
theorem dX9_counting_11 : decode cX9_counting 11 = .ok (.bipush 12, 2) := by decide +kernel
theorem dX9_counting_13 : decode cX9_counting 13 = .ok (.iload_n 1, 1) := by decide +kernel
theorem dX9_counting_14 : decode cX9_counting 14 = .ok (.imul, 1) := by decide +kernel
theorem dX9_counting_15 : decode cX9_counting 15 = .ok (.aload_n 0, 1) := by decide +kernel
theorem dX9_counting_16 : decode cX9_counting 16 = .ok (.getfield 25, 3) := by decide +kernel
theorem dX9_counting_19 : decode cX9_counting 19 = .ok (.iload_n 1, 1) := by decide +kernel
theorem dX9_counting_20 : decode cX9_counting 20 = .ok (.iaload, 1) := by decide +kernel
theorem dX9_counting_21 : decode cX9_counting 21 = .ok (.iadd, 1) := by decide +kernel
theorem dX9_counting_22 : decode cX9_counting 22 = .ok (.if_icmp .ge 74, 3) := by decide +kernel
theorem dX9_counting_25 : decode cX9_counting 25 = .ok (.aload_n 0, 1) := by decide +kernel
theorem dX9_counting_26 : decode cX9_counting 26 = .ok (.getfield 31, 3) := by decide +kernel
theorem dX9_counting_29 : decode cX9_counting 29 = .ok (.iload 5, 2) := by decide +kernel
theorem dX9_counting_31 : decode cX9_counting 31 = .ok (.iaload, 1) := by decide +kernel
theorem dX9_counting_32 : decode cX9_counting 32 = .ok (.iload_n 3, 1) := by decide +kernel
theorem dX9_counting_33 : decode cX9_counting 33 = .ok (.if_icmp .ne 40, 3) := by decide +kernel
theorem dX9_counting_36 : decode cX9_counting 36 = .ok (.aload_n 0, 1) := by decide +kernel
theorem dX9_counting_37 : decode cX9_counting 37 = .ok (.getfield 28, 3) := by decide +kernel
theorem dX9_counting_40 : decode cX9_counting 40 = .ok (.iload 5, 2) := by decide +kernel
theorem dX9_counting_42 : decode cX9_counting 42 = .ok (.iaload, 1) := by decide +kernel
theorem dX9_counting_43 : decode cX9_counting 43 = .ok (.iload_n 2, 1) := by decide +kernel
theorem dX9_counting_44 : decode cX9_counting 44 = .ok (.if_icmp .gt 29, 3) := by decide +kernel
theorem dX9_counting_47 : decode cX9_counting 47 = .ok (.iload 4, 2) := by decide +kernel
theorem dX9_counting_49 : decode cX9_counting 49 = .ok (.ifCond .lt 20, 3) := by decide +kernel
theorem dX9_counting_52 : decode cX9_counting 52 = .ok (.aload_n 0, 1) := by decide +kernel
theorem dX9_counting_53 : decode cX9_counting 53 = .ok (.getfield 28, 3) := by decide +kernel
theorem dX9_counting_56 : decode cX9_counting 56 = .ok (.iload 5, 2) := by decide +kernel
theorem dX9_counting_58 : decode cX9_counting 58 = .ok (.iaload, 1) := by decide +kernel
theorem dX9_counting_59 : decode cX9_counting 59 = .ok (.aload_n 0, 1) := by decide +kernel
theorem dX9_counting_60 : decode cX9_counting 60 = .ok (.getfield 28, 3) := by decide +kernel
theorem dX9_counting_63 : decode cX9_counting 63 = .ok (.iload 4, 2) := by decide +kernel
theorem dX9_counting_65 : decode cX9_counting 65 = .ok (.iaload, 1) := by decide +kernel
theorem dX9_counting_66 : decode cX9_counting 66 = .ok (.if_icmp .lt 7, 3) := by decide +kernel
theorem dX9_counting_69 : decode cX9_counting 69 = .ok (.iconst 1, 1) := by decide +kernel
theorem dX9_counting_70 : decode cX9_counting 70 = .ok (.goto 4, 3) := by decide +kernel
theorem dX9_counting_73 : decode cX9_counting 73 = .ok (.iconst 0, 1) := by decide +kernel
theorem dX9_counting_74 : decode cX9_counting 74 = .ok (.istore 6, 2) := by decide +kernel
theorem dX9_counting_76 : decode cX9_counting 76 = .ok (.iload 6, 2) := by decide +kernel
theorem dX9_counting_78 : decode cX9_counting 78 = .ok (.ifCond .eq 8, 3) := by decide +kernel
theorem dX9_counting_81 : decode cX9_counting 81 = .ok (.iload 5, 2) := by decide +kernel
theorem dX9_counting_83 : decode cX9_counting 83 = .ok (.goto 5, 3) := by decide +kernel
theorem dX9_counting_86 : decode cX9_counting 86 = .ok (.iload 4, 2) := by decide +kernel
theorem dX9_counting_88 : decode cX9_counting 88 = .ok (.istore 4, 2) := by decide +kernel
theorem dX9_counting_90 : decode cX9_counting 90 = .ok (.iinc 5 1, 3) := by decide +kernel
theorem dX9_counting_93 : decode cX9_counting 93 = .ok (.goto (-84), 3) := by decide +kernel
theorem dX9_counting_96 : decode cX9_counting 96 = .ok (.iload 4, 2) := by decide +kernel
theorem dX9_counting_98 : decode cX9_counting 98 = .ok (.ireturn, 1) := by decide +kernel
set_option maxRecDepth 20000 in
theorem ggX9_sizeOn_X9_counting : GoodIn wsX9_sizeOn wsX9_counting := goodIn_r _ [7, 8, 9, 10, 11, 12, 13, 14, 15, 16, 17, 18, 19, 20, 21, 22, 23, 24, 25, 26, 27, 28, 29, 30, 31, 32] (by decide +kernel) (by decide +kernel)
set_option maxRecDepth 20000 in
theorem gX9_sizeOn_X9_counting : GoodIn wsX9_sizeOn (wsV RX9 120 RX9 yX9_counting wsX9_counting) := goodIn_app (goodIn_of _ (by decide +kernel)) ggX9_sizeOn_X9_counting
theorem dX9_sizeOn_0 : decode cX9_sizeOn 0 = .ok (.aload_n 0, 1) := by decide +kernel
theorem dX9_sizeOn_1 : decode cX9_sizeOn 1 = .ok (.iload_n 1, 1) := by decide +kernel
theorem dX9_sizeOn_2 : decode cX9_sizeOn 2 = .ok (.iload_n 2, 1) := by decide +kernel
theorem dX9_sizeOn_3 : decode cX9_sizeOn 3 = .ok (.iconst 0, 1) := by decide +kernel
theorem dX9_sizeOn_4 : decode cX9_sizeOn 4 = .ok (.invokevirtual 120, 3) := by decide +kernel
theorem dX9_sizeOn_7 : decode cX9_sizeOn 7 = .ok (.istore_n 3, 1) := by decide +kernel
theorem dX9_sizeOn_8 : decode cX9_sizeOn 8 = .ok (.iload_n 3, 1) := by decide +kernel
theorem dX9_sizeOn_9 : decode cX9_sizeOn 9 = .ok (.ifCond .ge 12, 3) := by decide +kernel
theorem dX9_sizeOn_12 : decode cX9_sizeOn 12 = .ok (.aload_n 0, 1) := by decide +kernel
theorem dX9_sizeOn_13 : decode cX9_sizeOn 13 = .ok (.getfield 19, 3) := by decide +kernel
theorem dX9_sizeOn_16 : decode cX9_sizeOn 16 = .ok (.iload_n 1, 1) := by decide +kernel
theorem dX9_sizeOn_17 : decode cX9_sizeOn 17 = .ok (.iaload, 1) := by decide +kernel
theorem dX9_sizeOn_18 : decode cX9_sizeOn 18 = .ok (.goto 9, 3) := by decide +kernel
theorem dX9_sizeOn_21 : decode cX9_sizeOn 21 = .ok (.aload_n 0, 1) := by decide +kernel
theorem dX9_sizeOn_22 : decode cX9_sizeOn 22 = .ok (.getfield 34, 3) := by decide +kernel
theorem dX9_sizeOn_25 : decode cX9_sizeOn 25 = .ok (.iload_n 3, 1) := by decide +kernel
theorem dX9_sizeOn_26 : decode cX9_sizeOn 26 = .ok (.iaload, 1) := by decide +kernel
theorem dX9_sizeOn_27 : decode cX9_sizeOn 27 = .ok (.ireturn, 1) := by decide +kernel
set_option maxRecDepth 20000 in
theorem ggX9_useOn_X9_counting : GoodIn wsX9_useOn wsX9_counting := goodIn_r _ [6, 7, 8, 9, 10, 11, 12, 13, 14, 15, 16, 17, 18, 19, 20, 21, 22, 23, 24, 25, 26, 27, 28, 29, 30, 31] (by decide +kernel) (by decide +kernel)
set_option maxRecDepth 20000 in
theorem gX9_useOn_X9_counting : GoodIn wsX9_useOn (wsV RX9 120 RX9 yX9_counting wsX9_counting) := goodIn_app (goodIn_of _ (by decide +kernel)) ggX9_useOn_X9_counting
theorem dX9_useOn_0 : decode cX9_useOn 0 = .ok (.aload_n 0, 1) := by decide +kernel
theorem dX9_useOn_1 : decode cX9_useOn 1 = .ok (.iload_n 1, 1) := by decide +kernel
theorem dX9_useOn_2 : decode cX9_useOn 2 = .ok (.iload_n 2, 1) := by decide +kernel
theorem dX9_useOn_3 : decode cX9_useOn 3 = .ok (.iconst 1, 1) := by decide +kernel
theorem dX9_useOn_4 : decode cX9_useOn 4 = .ok (.invokevirtual 120, 3) := by decide +kernel
theorem dX9_useOn_7 : decode cX9_useOn 7 = .ok (.istore_n 3, 1) := by decide +kernel
theorem dX9_useOn_8 : decode cX9_useOn 8 = .ok (.iload_n 3, 1) := by decide +kernel
theorem dX9_useOn_9 : decode cX9_useOn 9 = .ok (.ifCond .ge 7, 3) := by decide +kernel
theorem dX9_useOn_12 : decode cX9_useOn 12 = .ok (.iconst 0, 1) := by decide +kernel
theorem dX9_useOn_13 : decode cX9_useOn 13 = .ok (.goto 9, 3) := by decide +kernel
theorem dX9_useOn_16 : decode cX9_useOn 16 = .ok (.aload_n 0, 1) := by decide +kernel
theorem dX9_useOn_17 : decode cX9_useOn 17 = .ok (.getfield 34, 3) := by decide +kernel
theorem dX9_useOn_20 : decode cX9_useOn 20 = .ok (.iload_n 3, 1) := by decide +kernel
theorem dX9_useOn_21 : decode cX9_useOn 21 = .ok (.iaload, 1) := by decide +kernel
theorem dX9_useOn_22 : decode cX9_useOn 22 = .ok (.ireturn, 1) := by decide +kernel
theorem dX9_listOn_0 : decode cX9_listOn 0 = .ok (.bipush (-4), 2) := by decide +kernel
theorem dX9_listOn_2 : decode cX9_listOn 2 = .ok (.istore_n 2, 1) := by decide +kernel
theorem dX9_listOn_3 : decode cX9_listOn 3 = .ok (.iconst 0, 1) := by decide +kernel
theorem dX9_listOn_4 : decode cX9_listOn 4 = .ok (.istore_n 3, 1) := by decide +kernel
theorem dX9_listOn_5 : decode cX9_listOn 5 = .ok (.iload_n 3, 1) := by decide +kernel
theorem dX9_listOn_6 : decode cX9_listOn 6 = .ok (.aload_n 0, 1) := by decide +kernel
theorem dX9_listOn_7 : decode cX9_listOn 7 = .ok (.getfield 103, 3) := by decide +kernel
theorem dX9_listOn_10 : decode cX9_listOn 10 = .ok (.if_icmp .ge 25, 3) := by decide +kernel
theorem dX9_listOn_13 : decode cX9_listOn 13 = .ok (.aload_n 0, 1) := by decide +kernel
theorem dX9_listOn_14 : decode cX9_listOn 14 = .ok (.getfield 37, 3) := by decide +kernel
theorem dX9_listOn_17 : decode cX9_listOn 17 = .ok (.iload_n 3, 1) := by decide +kernel
theorem dX9_listOn_18 : decode cX9_listOn 18 = .ok (.iaload, 1) := by decide +kernel
theorem dX9_listOn_19 : decode cX9_listOn 19 = .ok (.iload_n 1, 1) := by decide +kernel
theorem dX9_listOn_20 : decode cX9_listOn 20 = .ok (.if_icmp .gt 7, 3) := by decide +kernel
theorem dX9_listOn_23 : decode cX9_listOn 23 = .ok (.iload_n 3, 1) := by decide +kernel
theorem dX9_listOn_24 : decode cX9_listOn 24 = .ok (.goto 4, 3) := by decide +kernel
theorem dX9_listOn_27 : decode cX9_listOn 27 = .ok (.iload_n 2, 1) := by decide +kernel
theorem dX9_listOn_28 : decode cX9_listOn 28 = .ok (.istore_n 2, 1) := by decide +kernel
theorem dX9_listOn_29 : decode cX9_listOn 29 = .ok (.iinc 3 1, 3) := by decide +kernel
theorem dX9_listOn_32 : decode cX9_listOn 32 = .ok (.goto (-27), 3) := by decide +kernel
theorem dX9_listOn_35 : decode cX9_listOn 35 = .ok (.iload_n 2, 1) := by decide +kernel
theorem dX9_listOn_36 : decode cX9_listOn 36 = .ok (.ireturn, 1) := by decide +kernel
set_option maxRecDepth 20000 in
theorem ggX9_worthOn_X9_listOn : GoodIn wsX9_worthOn wsX9_listOn := goodIn_r _ [15, 16, 5, 30, 31, 32, 33, 34, 35, 36, 37, 38, 39, 40, 41, 42, 43, 44, 45, 46, 47, 48, 49, 50, 51] (by decide +kernel) (by decide +kernel)
set_option maxRecDepth 20000 in
theorem gX9_worthOn_X9_listOn : GoodIn wsX9_worthOn (wsV RX9 123 RX9 yX9_listOn wsX9_listOn) := goodIn_app (goodIn_of _ (by decide +kernel)) ggX9_worthOn_X9_listOn
set_option maxRecDepth 20000 in
theorem ggX9_worthOn_X9_sizeOn : GoodIn wsX9_worthOn wsX9_sizeOn := goodIn_r _ [20, 21, 9, 22, 23, 24, 14, 25, 6, 7, 8, 30, 31, 32, 33, 34, 35, 36, 37, 38, 39, 40, 41, 42, 43, 44, 45, 46, 47, 48, 49, 50, 51] (by decide +kernel) (by decide +kernel)
set_option maxRecDepth 20000 in
theorem gX9_worthOn_X9_sizeOn : GoodIn wsX9_worthOn (wsV RX9 127 RX9 yX9_sizeOn wsX9_sizeOn) := goodIn_app (goodIn_of _ (by decide +kernel)) ggX9_worthOn_X9_sizeOn
set_option maxRecDepth 20000 in
theorem ggX9_worthOn_X9_nextCut : GoodIn wsX9_worthOn wsX9_nextCut := goodIn_r _ [29, 6, 7, 8, 30, 31, 32, 33, 34, 35, 36, 37, 38, 39, 40, 41, 42, 43, 44, 45, 46, 47, 48, 49, 50, 51] (by decide +kernel) (by decide +kernel)
set_option maxRecDepth 20000 in
theorem gX9_worthOn_X9_nextCut : GoodIn wsX9_worthOn (wsV RX9 131 RX9 yX9_nextCut wsX9_nextCut) := goodIn_app (goodIn_of _ (by decide +kernel)) ggX9_worthOn_X9_nextCut
theorem dX9_worthOn_0 : decode cX9_worthOn 0 = .ok (.aload_n 0, 1) := by decide +kernel
theorem dX9_worthOn_1 : decode cX9_worthOn 1 = .ok (.iload_n 2, 1) := by decide +kernel
theorem dX9_worthOn_2 : decode cX9_worthOn 2 = .ok (.invokevirtual 123, 3) := by decide +kernel
theorem dX9_worthOn_5 : decode cX9_worthOn 5 = .ok (.istore_n 3, 1) := by decide +kernel
theorem dX9_worthOn_6 : decode cX9_worthOn 6 = .ok (.iload_n 3, 1) := by decide +kernel
theorem dX9_worthOn_7 : decode cX9_worthOn 7 = .ok (.ifCond .ge 5, 3) := by decide +kernel
theorem dX9_worthOn_10 : decode cX9_worthOn 10 = .ok (.iconst 0, 1) := by decide +kernel
theorem dX9_worthOn_11 : decode cX9_worthOn 11 = .ok (.ireturn, 1) := by decide +kernel
theorem dX9_worthOn_12 : decode cX9_worthOn 12 = .ok (.bipush 18, 2) := by decide +kernel
theorem dX9_worthOn_14 : decode cX9_worthOn 14 = .ok (.iload_n 3, 1) := by decide +kernel
theorem dX9_worthOn_15 : decode cX9_worthOn 15 = .ok (.imul, 1) := by decide +kernel
theorem dX9_worthOn_16 : decode cX9_worthOn 16 = .ok (.bipush 6, 2) := by decide +kernel
theorem dX9_worthOn_18 : decode cX9_worthOn 18 = .ok (.aload_n 0, 1) := by decide +kernel
theorem dX9_worthOn_19 : decode cX9_worthOn 19 = .ok (.getfield 13, 3) := by decide +kernel
theorem dX9_worthOn_22 : decode cX9_worthOn 22 = .ok (.iload_n 1, 1) := by decide +kernel
theorem dX9_worthOn_23 : decode cX9_worthOn 23 = .ok (.iaload, 1) := by decide +kernel
theorem dX9_worthOn_24 : decode cX9_worthOn 24 = .ok (.imul, 1) := by decide +kernel
theorem dX9_worthOn_25 : decode cX9_worthOn 25 = .ok (.iadd, 1) := by decide +kernel
theorem dX9_worthOn_26 : decode cX9_worthOn 26 = .ok (.aload_n 0, 1) := by decide +kernel
theorem dX9_worthOn_27 : decode cX9_worthOn 27 = .ok (.getfield 16, 3) := by decide +kernel
theorem dX9_worthOn_30 : decode cX9_worthOn 30 = .ok (.iload_n 1, 1) := by decide +kernel
theorem dX9_worthOn_31 : decode cX9_worthOn 31 = .ok (.iaload, 1) := by decide +kernel
theorem dX9_worthOn_32 : decode cX9_worthOn 32 = .ok (.iadd, 1) := by decide +kernel
theorem dX9_worthOn_33 : decode cX9_worthOn 33 = .ok (.istore 4, 2) := by decide +kernel
theorem dX9_worthOn_35 : decode cX9_worthOn 35 = .ok (.aload_n 0, 1) := by decide +kernel
theorem dX9_worthOn_36 : decode cX9_worthOn 36 = .ok (.iload_n 1, 1) := by decide +kernel
theorem dX9_worthOn_37 : decode cX9_worthOn 37 = .ok (.iload_n 2, 1) := by decide +kernel
theorem dX9_worthOn_38 : decode cX9_worthOn 38 = .ok (.invokevirtual 127, 3) := by decide +kernel
theorem dX9_worthOn_41 : decode cX9_worthOn 41 = .ok (.i2l, 1) := by decide +kernel
theorem dX9_worthOn_42 : decode cX9_worthOn 42 = .ok (.aload_n 0, 1) := by decide +kernel
theorem dX9_worthOn_43 : decode cX9_worthOn 43 = .ok (.getfield 40, 3) := by decide +kernel
theorem dX9_worthOn_46 : decode cX9_worthOn 46 = .ok (.iload 4, 2) := by decide +kernel
theorem dX9_worthOn_48 : decode cX9_worthOn 48 = .ok (.iaload, 1) := by decide +kernel
theorem dX9_worthOn_49 : decode cX9_worthOn 49 = .ok (.i2l, 1) := by decide +kernel
theorem dX9_worthOn_50 : decode cX9_worthOn 50 = .ok (.lmul, 1) := by decide +kernel
theorem dX9_worthOn_51 : decode cX9_worthOn 51 = .ok (.aload_n 0, 1) := by decide +kernel
theorem dX9_worthOn_52 : decode cX9_worthOn 52 = .ok (.getfield 43, 3) := by decide +kernel
theorem dX9_worthOn_55 : decode cX9_worthOn 55 = .ok (.iload 4, 2) := by decide +kernel
theorem dX9_worthOn_57 : decode cX9_worthOn 57 = .ok (.iaload, 1) := by decide +kernel
theorem dX9_worthOn_58 : decode cX9_worthOn 58 = .ok (.i2l, 1) := by decide +kernel
theorem dX9_worthOn_59 : decode cX9_worthOn 59 = .ok (.ldiv, 1) := by decide +kernel
theorem dX9_worthOn_60 : decode cX9_worthOn 60 = .ok (.lstore 5, 2) := by decide +kernel
theorem dX9_worthOn_62 : decode cX9_worthOn 62 = .ok (.aload_n 0, 1) := by decide +kernel
theorem dX9_worthOn_63 : decode cX9_worthOn 63 = .ok (.getfield 37, 3) := by decide +kernel
theorem dX9_worthOn_66 : decode cX9_worthOn 66 = .ok (.iload_n 3, 1) := by decide +kernel
theorem dX9_worthOn_67 : decode cX9_worthOn 67 = .ok (.iaload, 1) := by decide +kernel
theorem dX9_worthOn_68 : decode cX9_worthOn 68 = .ok (.istore 7, 2) := by decide +kernel
theorem dX9_worthOn_70 : decode cX9_worthOn 70 = .ok (.iload 7, 2) := by decide +kernel
theorem dX9_worthOn_72 : decode cX9_worthOn 72 = .ok (.iload_n 2, 1) := by decide +kernel
theorem dX9_worthOn_73 : decode cX9_worthOn 73 = .ok (.if_icmp .gt 102, 3) := by decide +kernel
theorem dX9_worthOn_76 : decode cX9_worthOn 76 = .ok (.aload_n 0, 1) := by decide +kernel
theorem dX9_worthOn_77 : decode cX9_worthOn 77 = .ok (.iload_n 1, 1) := by decide +kernel
theorem dX9_worthOn_78 : decode cX9_worthOn 78 = .ok (.iload 7, 2) := by decide +kernel
theorem dX9_worthOn_80 : decode cX9_worthOn 80 = .ok (.iload_n 2, 1) := by decide +kernel
theorem dX9_worthOn_81 : decode cX9_worthOn 81 = .ok (.invokevirtual 131, 3) := by decide +kernel
theorem dX9_worthOn_84 : decode cX9_worthOn 84 = .ok (.istore 7, 2) := by decide +kernel
theorem dX9_worthOn_86 : decode cX9_worthOn 86 = .ok (.bipush 12, 2) := by decide +kernel
theorem dX9_worthOn_88 : decode cX9_worthOn 88 = .ok (.iload_n 1, 1) := by decide +kernel
theorem dX9_worthOn_89 : decode cX9_worthOn 89 = .ok (.imul, 1) := by decide +kernel
theorem dX9_worthOn_90 : decode cX9_worthOn 90 = .ok (.istore 8, 2) := by decide +kernel
theorem dX9_worthOn_92 : decode cX9_worthOn 92 = .ok (.iload 8, 2) := by decide +kernel
theorem dX9_worthOn_94 : decode cX9_worthOn 94 = .ok (.bipush 12, 2) := by decide +kernel
theorem dX9_worthOn_96 : decode cX9_worthOn 96 = .ok (.iload_n 1, 1) := by decide +kernel
theorem dX9_worthOn_97 : decode cX9_worthOn 97 = .ok (.imul, 1) := by decide +kernel
theorem dX9_worthOn_98 : decode cX9_worthOn 98 = .ok (.aload_n 0, 1) := by decide +kernel
theorem dX9_worthOn_99 : decode cX9_worthOn 99 = .ok (.getfield 25, 3) := by decide +kernel
theorem dX9_worthOn_102 : decode cX9_worthOn 102 = .ok (.iload_n 1, 1) := by decide +kernel
theorem dX9_worthOn_103 : decode cX9_worthOn 103 = .ok (.iaload, 1) := by decide +kernel
theorem dX9_worthOn_104 : decode cX9_worthOn 104 = .ok (.iadd, 1) := by decide +kernel
theorem dX9_worthOn_105 : decode cX9_worthOn 105 = .ok (.if_icmp .ge 64, 3) := by decide +kernel
theorem dX9_worthOn_108 : decode cX9_worthOn 108 = .ok (.aload_n 0, 1) := by decide +kernel
theorem dX9_worthOn_109 : decode cX9_worthOn 109 = .ok (.getfield 31, 3) := by decide +kernel
theorem dX9_worthOn_112 : decode cX9_worthOn 112 = .ok (.iload 8, 2) := by decide +kernel
theorem dX9_worthOn_114 : decode cX9_worthOn 114 = .ok (.iaload, 1) := by decide +kernel
theorem dX9_worthOn_115 : decode cX9_worthOn 115 = .ok (.iconst 2, 1) := by decide +kernel
theorem dX9_worthOn_116 : decode cX9_worthOn 116 = .ok (.if_icmp .ne 43, 3) := by decide +kernel
theorem dX9_worthOn_119 : decode cX9_worthOn 119 = .ok (.aload_n 0, 1) := by decide +kernel
theorem dX9_worthOn_120 : decode cX9_worthOn 120 = .ok (.getfield 28, 3) := by decide +kernel
theorem dX9_worthOn_123 : decode cX9_worthOn 123 = .ok (.iload 8, 2) := by decide +kernel
theorem dX9_worthOn_125 : decode cX9_worthOn 125 = .ok (.iaload, 1) := by decide +kernel
theorem dX9_worthOn_126 : decode cX9_worthOn 126 = .ok (.iload 7, 2) := by decide +kernel
theorem dX9_worthOn_128 : decode cX9_worthOn 128 = .ok (.if_icmp .ne 31, 3) := by decide +kernel
theorem dX9_worthOn_131 : decode cX9_worthOn 131 = .ok (.iload 7, 2) := by decide +kernel
theorem dX9_worthOn_133 : decode cX9_worthOn 133 = .ok (.iload_n 2, 1) := by decide +kernel
theorem dX9_worthOn_134 : decode cX9_worthOn 134 = .ok (.if_icmp .gt 25, 3) := by decide +kernel
theorem dX9_worthOn_137 : decode cX9_worthOn 137 = .ok (.lload 5, 2) := by decide +kernel
theorem dX9_worthOn_139 : decode cX9_worthOn 139 = .ok (.sipush 1000, 3) := by decide +kernel
theorem dX9_worthOn_142 : decode cX9_worthOn 142 = .ok (.aload_n 0, 1) := by decide +kernel
theorem dX9_worthOn_143 : decode cX9_worthOn 143 = .ok (.getfield 34, 3) := by decide +kernel
theorem dX9_worthOn_146 : decode cX9_worthOn 146 = .ok (.iload 8, 2) := by decide +kernel
theorem dX9_worthOn_148 : decode cX9_worthOn 148 = .ok (.iaload, 1) := by decide +kernel
theorem dX9_worthOn_149 : decode cX9_worthOn 149 = .ok (.isub, 1) := by decide +kernel
theorem dX9_worthOn_150 : decode cX9_worthOn 150 = .ok (.i2l, 1) := by decide +kernel
theorem dX9_worthOn_151 : decode cX9_worthOn 151 = .ok (.lmul, 1) := by decide +kernel
theorem dX9_worthOn_152 : decode cX9_worthOn 152 = .ok (.ldc2_w 134, 3) := by decide +kernel
theorem dX9_worthOn_155 : decode cX9_worthOn 155 = .ok (.ldiv, 1) := by decide +kernel
theorem dX9_worthOn_156 : decode cX9_worthOn 156 = .ok (.goto 5, 3) := by decide +kernel
theorem dX9_worthOn_159 : decode cX9_worthOn 159 = .ok (.lload 5, 2) := by decide +kernel
theorem dX9_worthOn_161 : decode cX9_worthOn 161 = .ok (.lstore 5, 2) := by decide +kernel
theorem dX9_worthOn_163 : decode cX9_worthOn 163 = .ok (.iinc 8 1, 3) := by decide +kernel
theorem dX9_worthOn_166 : decode cX9_worthOn 166 = .ok (.goto (-74), 3) := by decide +kernel
theorem dX9_worthOn_169 : decode cX9_worthOn 169 = .ok (.iinc 7 1, 3) := by decide +kernel
theorem dX9_worthOn_172 : decode cX9_worthOn 172 = .ok (.goto (-102), 3) := by decide +kernel
theorem dX9_worthOn_175 : decode cX9_worthOn 175 = .ok (.lload 5, 2) := by decide +kernel
theorem dX9_worthOn_177 : decode cX9_worthOn 177 = .ok (.l2i, 1) := by decide +kernel
theorem dX9_worthOn_178 : decode cX9_worthOn 178 = .ok (.ireturn, 1) := by decide +kernel
theorem dX9_nextCut_0 : decode cX9_nextCut 0 = .ok (.iload_n 3, 1) := by decide +kernel
theorem dX9_nextCut_1 : decode cX9_nextCut 1 = .ok (.iconst 1, 1) := by decide +kernel
theorem dX9_nextCut_2 : decode cX9_nextCut 2 = .ok (.iadd, 1) := by decide +kernel
theorem dX9_nextCut_3 : decode cX9_nextCut 3 = .ok (.istore 4, 2) := by decide +kernel
theorem dX9_nextCut_5 : decode cX9_nextCut 5 = .ok (.bipush 12, 2) := by decide +kernel
theorem dX9_nextCut_7 : decode cX9_nextCut 7 = .ok (.iload_n 1, 1) := by decide +kernel
theorem dX9_nextCut_8 : decode cX9_nextCut 8 = .ok (.imul, 1) := by decide +kernel
theorem dX9_nextCut_9 : decode cX9_nextCut 9 = .ok (.istore 5, 2) := by decide +kernel
theorem dX9_nextCut_11 : decode cX9_nextCut 11 = .ok (.iload 5, 2) := by decide +kernel
theorem dX9_nextCut_13 : decode cX9_nextCut 13 = .ok (.bipush 12, 2) := by decide +kernel
theorem dX9_nextCut_15 : decode cX9_nextCut 15 = .ok (.iload_n 1, 1) := by decide +kernel
theorem dX9_nextCut_16 : decode cX9_nextCut 16 = .ok (.imul, 1) := by decide +kernel
theorem dX9_nextCut_17 : decode cX9_nextCut 17 = .ok (.aload_n 0, 1) := by decide +kernel
theorem dX9_nextCut_18 : decode cX9_nextCut 18 = .ok (.getfield 25, 3) := by decide +kernel
theorem dX9_nextCut_21 : decode cX9_nextCut 21 = .ok (.iload_n 1, 1) := by decide +kernel
theorem dX9_nextCut_22 : decode cX9_nextCut 22 = .ok (.iaload, 1) := by decide +kernel
theorem dX9_nextCut_23 : decode cX9_nextCut 23 = .ok (.iadd, 1) := by decide +kernel
theorem dX9_nextCut_24 : decode cX9_nextCut 24 = .ok (.if_icmp .ge 57, 3) := by decide +kernel
theorem dX9_nextCut_27 : decode cX9_nextCut 27 = .ok (.aload_n 0, 1) := by decide +kernel
theorem dX9_nextCut_28 : decode cX9_nextCut 28 = .ok (.getfield 31, 3) := by decide +kernel
theorem dX9_nextCut_31 : decode cX9_nextCut 31 = .ok (.iload 5, 2) := by decide +kernel
theorem dX9_nextCut_33 : decode cX9_nextCut 33 = .ok (.iaload, 1) := by decide +kernel
theorem dX9_nextCut_34 : decode cX9_nextCut 34 = .ok (.iconst 2, 1) := by decide +kernel
theorem dX9_nextCut_35 : decode cX9_nextCut 35 = .ok (.if_icmp .ne 36, 3) := by decide +kernel
theorem dX9_nextCut_38 : decode cX9_nextCut 38 = .ok (.aload_n 0, 1) := by decide +kernel
theorem dX9_nextCut_39 : decode cX9_nextCut 39 = .ok (.getfield 28, 3) := by decide +kernel
theorem dX9_nextCut_42 : decode cX9_nextCut 42 = .ok (.iload 5, 2) := by decide +kernel
theorem dX9_nextCut_44 : decode cX9_nextCut 44 = .ok (.iaload, 1) := by decide +kernel
theorem dX9_nextCut_45 : decode cX9_nextCut 45 = .ok (.iload_n 2, 1) := by decide +kernel
theorem dX9_nextCut_46 : decode cX9_nextCut 46 = .ok (.if_icmp .lt 25, 3) := by decide +kernel
theorem dX9_nextCut_49 : decode cX9_nextCut 49 = .ok (.aload_n 0, 1) := by decide +kernel
theorem dX9_nextCut_50 : decode cX9_nextCut 50 = .ok (.getfield 28, 3) := by decide +kernel
theorem dX9_nextCut_53 : decode cX9_nextCut 53 = .ok (.iload 5, 2) := by decide +kernel
theorem dX9_nextCut_55 : decode cX9_nextCut 55 = .ok (.iaload, 1) := by decide +kernel
theorem dX9_nextCut_56 : decode cX9_nextCut 56 = .ok (.iload 4, 2) := by decide +kernel
theorem dX9_nextCut_58 : decode cX9_nextCut 58 = .ok (.if_icmp .ge 13, 3) := by decide +kernel
theorem dX9_nextCut_61 : decode cX9_nextCut 61 = .ok (.aload_n 0, 1) := by decide +kernel
theorem dX9_nextCut_62 : decode cX9_nextCut 62 = .ok (.getfield 28, 3) := by decide +kernel
theorem dX9_nextCut_65 : decode cX9_nextCut 65 = .ok (.iload 5, 2) := by decide +kernel
theorem dX9_nextCut_67 : decode cX9_nextCut 67 = .ok (.iaload, 1) := by decide +kernel
theorem dX9_nextCut_68 : decode cX9_nextCut 68 = .ok (.goto 5, 3) := by decide +kernel
theorem dX9_nextCut_71 : decode cX9_nextCut 71 = .ok (.iload 4, 2) := by decide +kernel
theorem dX9_nextCut_73 : decode cX9_nextCut 73 = .ok (.istore 4, 2) := by decide +kernel
theorem dX9_nextCut_75 : decode cX9_nextCut 75 = .ok (.iinc 5 1, 3) := by decide +kernel
theorem dX9_nextCut_78 : decode cX9_nextCut 78 = .ok (.goto (-67), 3) := by decide +kernel
theorem dX9_nextCut_81 : decode cX9_nextCut 81 = .ok (.iload 4, 2) := by decide +kernel
theorem dX9_nextCut_83 : decode cX9_nextCut 83 = .ok (.ireturn, 1) := by decide +kernel
set_option maxRecDepth 20000 in
theorem ggX9_countsOn_X9_worthOn : GoodIn wsX9_countsOn wsX9_worthOn := goodIn_r _ [6, 7, 8, 9, 10, 11, 12, 13, 1, 14, 15, 16, 17, 18, 5, 19, 20, 21, 22, 23, 24, 25, 26, 27, 28, 29, 30, 31, 32, 33, 38, 39, 40, 41, 42, 43, 44, 45, 46, 47, 48, 49, 50, 51, 52, 53, 54, 55, 56, 57, 58, 59] (by decide +kernel) (by decide +kernel)
set_option maxRecDepth 20000 in
theorem gX9_countsOn_X9_worthOn : GoodIn wsX9_countsOn (wsV RX9 136 RX9 yX9_worthOn wsX9_worthOn) := goodIn_app (goodIn_of _ (by decide +kernel)) ggX9_countsOn_X9_worthOn
set_option maxRecDepth 20000 in
theorem ggX9_countsOn_X9_useOn : GoodIn wsX9_countsOn wsX9_useOn := goodIn_r _ [37, 14, 26, 27, 28, 5, 29, 12, 13, 1, 38, 39, 40, 41, 42, 43, 44, 45, 46, 47, 48, 49, 50, 51, 52, 53, 54, 55, 56, 57, 58, 59] (by decide +kernel) (by decide +kernel)
set_option maxRecDepth 20000 in
theorem gX9_countsOn_X9_useOn : GoodIn wsX9_countsOn (wsV RX9 139 RX9 yX9_useOn wsX9_useOn) := goodIn_app (goodIn_of _ (by decide +kernel)) ggX9_countsOn_X9_useOn
set_option maxRecDepth 20000 in
theorem ggX9_countsOn_X9_counting : GoodIn wsX9_countsOn wsX9_counting := goodIn_r _ [29, 12, 13, 1, 38, 39, 40, 41, 42, 43, 44, 45, 46, 47, 48, 49, 50, 51, 52, 53, 54, 55, 56, 57, 58, 59] (by decide +kernel) (by decide +kernel)
set_option maxRecDepth 20000 in
theorem gX9_countsOn_X9_counting : GoodIn wsX9_countsOn (wsV RX9 120 RX9 yX9_counting wsX9_counting) := goodIn_app (goodIn_of _ (by decide +kernel)) ggX9_countsOn_X9_counting
theorem dX9_countsOn_0 : decode cX9_countsOn 0 = .ok (.aload_n 0, 1) := by decide +kernel
theorem dX9_countsOn_1 : decode cX9_countsOn 1 = .ok (.iload_n 1, 1) := by decide +kernel
theorem dX9_countsOn_2 : decode cX9_countsOn 2 = .ok (.iload_n 2, 1) := by decide +kernel
theorem dX9_countsOn_3 : decode cX9_countsOn 3 = .ok (.invokevirtual 136, 3) := by decide +kernel
theorem dX9_countsOn_6 : decode cX9_countsOn 6 = .ok (.istore_n 3, 1) := by decide +kernel
theorem dX9_countsOn_7 : decode cX9_countsOn 7 = .ok (.aload_n 0, 1) := by decide +kernel
theorem dX9_countsOn_8 : decode cX9_countsOn 8 = .ok (.iload_n 1, 1) := by decide +kernel
theorem dX9_countsOn_9 : decode cX9_countsOn 9 = .ok (.iload_n 2, 1) := by decide +kernel
theorem dX9_countsOn_10 : decode cX9_countsOn 10 = .ok (.invokevirtual 139, 3) := by decide +kernel
theorem dX9_countsOn_13 : decode cX9_countsOn 13 = .ok (.tableswitch 60 0 2 #[27, 29, 56], 27) := by decide +kernel
theorem dX9_countsOn_40 : decode cX9_countsOn 40 = .ok (.iload_n 3, 1) := by decide +kernel
theorem dX9_countsOn_41 : decode cX9_countsOn 41 = .ok (.ireturn, 1) := by decide +kernel
theorem dX9_countsOn_42 : decode cX9_countsOn 42 = .ok (.iload_n 2, 1) := by decide +kernel
theorem dX9_countsOn_43 : decode cX9_countsOn 43 = .ok (.aload_n 0, 1) := by decide +kernel
theorem dX9_countsOn_44 : decode cX9_countsOn 44 = .ok (.getfield 28, 3) := by decide +kernel
theorem dX9_countsOn_47 : decode cX9_countsOn 47 = .ok (.aload_n 0, 1) := by decide +kernel
theorem dX9_countsOn_48 : decode cX9_countsOn 48 = .ok (.iload_n 1, 1) := by decide +kernel
theorem dX9_countsOn_49 : decode cX9_countsOn 49 = .ok (.iload_n 2, 1) := by decide +kernel
theorem dX9_countsOn_50 : decode cX9_countsOn 50 = .ok (.iconst 1, 1) := by decide +kernel
theorem dX9_countsOn_51 : decode cX9_countsOn 51 = .ok (.invokevirtual 120, 3) := by decide +kernel
theorem dX9_countsOn_54 : decode cX9_countsOn 54 = .ok (.iaload, 1) := by decide +kernel
theorem dX9_countsOn_55 : decode cX9_countsOn 55 = .ok (.isub, 1) := by decide +kernel
theorem dX9_countsOn_56 : decode cX9_countsOn 56 = .ok (.bipush 90, 2) := by decide +kernel
theorem dX9_countsOn_58 : decode cX9_countsOn 58 = .ok (.if_icmp .ge 7, 3) := by decide +kernel
theorem dX9_countsOn_61 : decode cX9_countsOn 61 = .ok (.iconst 0, 1) := by decide +kernel
theorem dX9_countsOn_62 : decode cX9_countsOn 62 = .ok (.goto 6, 3) := by decide +kernel
theorem dX9_countsOn_65 : decode cX9_countsOn 65 = .ok (.iload_n 3, 1) := by decide +kernel
theorem dX9_countsOn_66 : decode cX9_countsOn 66 = .ok (.iconst 2, 1) := by decide +kernel
theorem dX9_countsOn_67 : decode cX9_countsOn 67 = .ok (.idiv, 1) := by decide +kernel
theorem dX9_countsOn_68 : decode cX9_countsOn 68 = .ok (.ireturn, 1) := by decide +kernel
theorem dX9_countsOn_69 : decode cX9_countsOn 69 = .ok (.iload_n 3, 1) := by decide +kernel
theorem dX9_countsOn_70 : decode cX9_countsOn 70 = .ok (.iconst 2, 1) := by decide +kernel
theorem dX9_countsOn_71 : decode cX9_countsOn 71 = .ok (.idiv, 1) := by decide +kernel
theorem dX9_countsOn_72 : decode cX9_countsOn 72 = .ok (.ireturn, 1) := by decide +kernel
theorem dX9_countsOn_73 : decode cX9_countsOn 73 = .ok (.iload_n 3, 1) := by decide +kernel
theorem dX9_countsOn_74 : decode cX9_countsOn 74 = .ok (.iconst 5, 1) := by decide +kernel
theorem dX9_countsOn_75 : decode cX9_countsOn 75 = .ok (.idiv, 1) := by decide +kernel
theorem dX9_countsOn_76 : decode cX9_countsOn 76 = .ok (.ireturn, 1) := by decide +kernel
theorem dX9_relieved_0 : decode cX9_relieved 0 = .ok (.iload_n 0, 1) := by decide +kernel
theorem dX9_relieved_1 : decode cX9_relieved 1 = .ok (.sipush 1200, 3) := by decide +kernel
theorem dX9_relieved_4 : decode cX9_relieved 4 = .ok (.if_icmp .gt 7, 3) := by decide +kernel
theorem dX9_relieved_7 : decode cX9_relieved 7 = .ok (.iconst 0, 1) := by decide +kernel
theorem dX9_relieved_8 : decode cX9_relieved 8 = .ok (.goto 21, 3) := by decide +kernel
theorem dX9_relieved_11 : decode cX9_relieved 11 = .ok (.iload_n 0, 1) := by decide +kernel
theorem dX9_relieved_12 : decode cX9_relieved 12 = .ok (.sipush 1500, 3) := by decide +kernel
theorem dX9_relieved_15 : decode cX9_relieved 15 = .ok (.if_icmp .gt 13, 3) := by decide +kernel
theorem dX9_relieved_18 : decode cX9_relieved 18 = .ok (.iconst 5, 1) := by decide +kernel
theorem dX9_relieved_19 : decode cX9_relieved 19 = .ok (.iload_n 0, 1) := by decide +kernel
theorem dX9_relieved_20 : decode cX9_relieved 20 = .ok (.sipush 1200, 3) := by decide +kernel
theorem dX9_relieved_23 : decode cX9_relieved 23 = .ok (.isub, 1) := by decide +kernel
theorem dX9_relieved_24 : decode cX9_relieved 24 = .ok (.imul, 1) := by decide +kernel
theorem dX9_relieved_25 : decode cX9_relieved 25 = .ok (.goto 4, 3) := by decide +kernel
theorem dX9_relieved_28 : decode cX9_relieved 28 = .ok (.iload_n 0, 1) := by decide +kernel
theorem dX9_relieved_29 : decode cX9_relieved 29 = .ok (.ireturn, 1) := by decide +kernel
set_option maxRecDepth 20000 in
theorem ggX9_on_X9_isHouse : GoodIn wsX9_on wsX9_isHouse := goodIn_r _ [5, 6, 7, 8, 4, 9, 56, 57, 58, 59, 60, 61, 62, 63, 64, 65, 66, 67, 68, 69, 70, 71, 72, 73, 74, 75, 76, 77] (by decide +kernel) (by decide +kernel)
set_option maxRecDepth 20000 in
theorem gX9_on_X9_isHouse : GoodIn wsX9_on (wsV RX9 75 RX9 yX9_isHouse wsX9_isHouse) := goodIn_app (goodIn_of _ (by decide +kernel)) ggX9_on_X9_isHouse
set_option maxRecDepth 20000 in
theorem ggX9_on_X9_isDay : GoodIn wsX9_on wsX9_isDay := goodIn_r _ [12, 7, 8, 4, 9] (by decide +kernel) (by decide +kernel)
set_option maxRecDepth 20000 in
theorem gX9_on_X9_isDay : GoodIn wsX9_on (va_wsS RX9 100 yX9_isDay wsX9_isDay) := goodIn_app (goodIn_of _ (by decide +kernel)) ggX9_on_X9_isDay
set_option maxRecDepth 20000 in
theorem ggX9_on_X9_in : GoodIn wsX9_on wsX9_in := goodIn_r _ [9] (by decide +kernel) (by decide +kernel)
set_option maxRecDepth 20000 in
theorem gX9_on_X9_in : GoodIn wsX9_on (va_wsS RX9 70 yX9_in wsX9_in) := goodIn_app (goodIn_of _ (by decide +kernel)) ggX9_on_X9_in
set_option maxRecDepth 20000 in
theorem ggX9_on_X9_sizeOn : GoodIn wsX9_on wsX9_sizeOn := goodIn_r _ [16, 17, 18, 19, 20, 21, 4, 22, 23, 24, 25, 56, 57, 58, 59, 60, 61, 62, 63, 64, 65, 66, 67, 68, 69, 70, 71, 72, 73, 74, 75, 76, 77] (by decide +kernel) (by decide +kernel)
set_option maxRecDepth 20000 in
theorem gX9_on_X9_sizeOn : GoodIn wsX9_on (wsV RX9 127 RX9 yX9_sizeOn wsX9_sizeOn) := goodIn_app (goodIn_of _ (by decide +kernel)) ggX9_on_X9_sizeOn
set_option maxRecDepth 20000 in
theorem ggX9_on_X9_useOn : GoodIn wsX9_on wsX9_useOn := goodIn_r _ [29, 18, 19, 20, 21, 4, 22, 23, 24, 25, 56, 57, 58, 59, 60, 61, 62, 63, 64, 65, 66, 67, 68, 69, 70, 71, 72, 73, 74, 75, 76, 77] (by decide +kernel) (by decide +kernel)
set_option maxRecDepth 20000 in
theorem gX9_on_X9_useOn : GoodIn wsX9_on (wsV RX9 139 RX9 yX9_useOn wsX9_useOn) := goodIn_app (goodIn_of _ (by decide +kernel)) ggX9_on_X9_useOn
set_option maxRecDepth 20000 in
theorem ggX9_on_X9_worthOn : GoodIn wsX9_on wsX9_worthOn := goodIn_r _ [33, 34, 35, 36, 37, 38, 23, 24, 25, 18, 39, 40, 41, 42, 4, 43, 44, 13, 14, 15, 16, 17, 19, 20, 21, 22, 45, 46, 47, 48, 56, 57, 58, 59, 60, 61, 62, 63, 64, 65, 66, 67, 68, 69, 70, 71, 72, 73, 74, 75, 76, 77] (by decide +kernel) (by decide +kernel)
set_option maxRecDepth 20000 in
theorem gX9_on_X9_worthOn : GoodIn wsX9_on (wsV RX9 136 RX9 yX9_worthOn wsX9_worthOn) := goodIn_app (goodIn_of _ (by decide +kernel)) ggX9_on_X9_worthOn
set_option maxRecDepth 20000 in
theorem ggX9_on_X9_countsOn : GoodIn wsX9_on wsX9_countsOn := goodIn_r _ [52, 25, 30, 31, 32, 4, 33, 34, 35, 36, 37, 38, 23, 24, 18, 39, 40, 41, 42, 43, 44, 13, 14, 15, 16, 17, 19, 20, 21, 22, 45, 46, 47, 48, 26, 27, 28, 29, 56, 57, 58, 59, 60, 61, 62, 63, 64, 65, 66, 67, 68, 69, 70, 71, 72, 73, 74, 75, 76, 77] (by decide +kernel) (by decide +kernel)
set_option maxRecDepth 20000 in
theorem gX9_on_X9_countsOn : GoodIn wsX9_on (wsV RX9 142 RX9 yX9_countsOn wsX9_countsOn) := goodIn_app (goodIn_of _ (by decide +kernel)) ggX9_on_X9_countsOn
set_option maxRecDepth 20000 in
theorem ggX9_on_X9_relieved : GoodIn wsX9_on wsX9_relieved := goodIn_r _ [55] (by decide +kernel) (by decide +kernel)
set_option maxRecDepth 20000 in
theorem gX9_on_X9_relieved : GoodIn wsX9_on (va_wsS RX9 145 yX9_relieved wsX9_relieved) := goodIn_app (goodIn_of _ (by decide +kernel)) ggX9_on_X9_relieved
set_option maxRecDepth 20000 in
theorem ggX9_on_X9_listOn : GoodIn wsX9_on wsX9_listOn := goodIn_r _ [43, 44, 38, 56, 57, 58, 59, 60, 61, 62, 63, 64, 65, 66, 67, 68, 69, 70, 71, 72, 73, 74, 75, 76, 77] (by decide +kernel) (by decide +kernel)
set_option maxRecDepth 20000 in
theorem gX9_on_X9_listOn : GoodIn wsX9_on (wsV RX9 123 RX9 yX9_listOn wsX9_listOn) := goodIn_app (goodIn_of _ (by decide +kernel)) ggX9_on_X9_listOn
theorem dX9_on_0 : decode cX9_on 0 = .ok (.aload_n 0, 1) := by decide +kernel
theorem dX9_on_1 : decode cX9_on 1 = .ok (.iload_n 1, 1) := by decide +kernel
theorem dX9_on_2 : decode cX9_on 2 = .ok (.invokevirtual 75, 3) := by decide +kernel
theorem dX9_on_5 : decode cX9_on 5 = .ok (.ifCond .eq 19, 3) := by decide +kernel
theorem dX9_on_8 : decode cX9_on 8 = .ok (.iload_n 2, 1) := by decide +kernel
theorem dX9_on_9 : decode cX9_on 9 = .ok (.invokestatic 100, 3) := by decide +kernel
theorem dX9_on_12 : decode cX9_on 12 = .ok (.ifCond .eq 12, 3) := by decide +kernel
theorem dX9_on_15 : decode cX9_on 15 = .ok (.iload_n 3, 1) := by decide +kernel
theorem dX9_on_16 : decode cX9_on 16 = .ok (.iconst 0, 1) := by decide +kernel
theorem dX9_on_17 : decode cX9_on 17 = .ok (.iconst 5, 1) := by decide +kernel
theorem dX9_on_18 : decode cX9_on 18 = .ok (.invokestatic 70, 3) := by decide +kernel
theorem dX9_on_21 : decode cX9_on 21 = .ok (.ifCond .ne 5, 3) := by decide +kernel
theorem dX9_on_24 : decode cX9_on 24 = .ok (.iconst (-1), 1) := by decide +kernel
theorem dX9_on_25 : decode cX9_on 25 = .ok (.ireturn, 1) := by decide +kernel
theorem dX9_on_26 : decode cX9_on 26 = .ok (.iload_n 3, 1) := by decide +kernel
theorem dX9_on_27 : decode cX9_on 27 = .ok (.tableswitch 71 0 4 #[33, 40, 47, 54, 61], 33) := by decide +kernel
theorem dX9_on_60 : decode cX9_on 60 = .ok (.aload_n 0, 1) := by decide +kernel
theorem dX9_on_61 : decode cX9_on 61 = .ok (.iload_n 1, 1) := by decide +kernel
theorem dX9_on_62 : decode cX9_on 62 = .ok (.iload_n 2, 1) := by decide +kernel
theorem dX9_on_63 : decode cX9_on 63 = .ok (.invokevirtual 127, 3) := by decide +kernel
theorem dX9_on_66 : decode cX9_on 66 = .ok (.ireturn, 1) := by decide +kernel
theorem dX9_on_67 : decode cX9_on 67 = .ok (.aload_n 0, 1) := by decide +kernel
theorem dX9_on_68 : decode cX9_on 68 = .ok (.iload_n 1, 1) := by decide +kernel
theorem dX9_on_69 : decode cX9_on 69 = .ok (.iload_n 2, 1) := by decide +kernel
theorem dX9_on_70 : decode cX9_on 70 = .ok (.invokevirtual 139, 3) := by decide +kernel
theorem dX9_on_73 : decode cX9_on 73 = .ok (.ireturn, 1) := by decide +kernel
theorem dX9_on_74 : decode cX9_on 74 = .ok (.aload_n 0, 1) := by decide +kernel
theorem dX9_on_75 : decode cX9_on 75 = .ok (.iload_n 1, 1) := by decide +kernel
theorem dX9_on_76 : decode cX9_on 76 = .ok (.iload_n 2, 1) := by decide +kernel
theorem dX9_on_77 : decode cX9_on 77 = .ok (.invokevirtual 136, 3) := by decide +kernel
theorem dX9_on_80 : decode cX9_on 80 = .ok (.ireturn, 1) := by decide +kernel
theorem dX9_on_81 : decode cX9_on 81 = .ok (.aload_n 0, 1) := by decide +kernel
theorem dX9_on_82 : decode cX9_on 82 = .ok (.iload_n 1, 1) := by decide +kernel
theorem dX9_on_83 : decode cX9_on 83 = .ok (.iload_n 2, 1) := by decide +kernel
theorem dX9_on_84 : decode cX9_on 84 = .ok (.invokevirtual 142, 3) := by decide +kernel
theorem dX9_on_87 : decode cX9_on 87 = .ok (.ireturn, 1) := by decide +kernel
theorem dX9_on_88 : decode cX9_on 88 = .ok (.aload_n 0, 1) := by decide +kernel
theorem dX9_on_89 : decode cX9_on 89 = .ok (.iload_n 1, 1) := by decide +kernel
theorem dX9_on_90 : decode cX9_on 90 = .ok (.iload_n 2, 1) := by decide +kernel
theorem dX9_on_91 : decode cX9_on 91 = .ok (.invokevirtual 142, 3) := by decide +kernel
theorem dX9_on_94 : decode cX9_on 94 = .ok (.invokestatic 145, 3) := by decide +kernel
theorem dX9_on_97 : decode cX9_on 97 = .ok (.ireturn, 1) := by decide +kernel
theorem dX9_on_98 : decode cX9_on 98 = .ok (.aload_n 0, 1) := by decide +kernel
theorem dX9_on_99 : decode cX9_on 99 = .ok (.iload_n 2, 1) := by decide +kernel
theorem dX9_on_100 : decode cX9_on 100 = .ok (.invokevirtual 123, 3) := by decide +kernel
theorem dX9_on_103 : decode cX9_on 103 = .ok (.ireturn, 1) := by decide +kernel
set_option maxRecDepth 20000 in
theorem ggX9_isYear_X9_in : GoodIn wsX9_isYear wsX9_in := goodIn_r _ [4] (by decide +kernel) (by decide +kernel)
set_option maxRecDepth 20000 in
theorem gX9_isYear_X9_in : GoodIn wsX9_isYear (va_wsS RX9 70 yX9_in wsX9_in) := goodIn_app (goodIn_of _ (by decide +kernel)) ggX9_isYear_X9_in
theorem dX9_isYear_0 : decode cX9_isYear 0 = .ok (.iload_n 0, 1) := by decide +kernel
theorem dX9_isYear_1 : decode cX9_isYear 1 = .ok (.iconst 0, 1) := by decide +kernel
theorem dX9_isYear_2 : decode cX9_isYear 2 = .ok (.bipush 9, 2) := by decide +kernel
theorem dX9_isYear_4 : decode cX9_isYear 4 = .ok (.invokestatic 70, 3) := by decide +kernel
theorem dX9_isYear_7 : decode cX9_isYear 7 = .ok (.ireturn, 1) := by decide +kernel
set_option maxRecDepth 20000 in
theorem ggX9_yearOf_X9_countsOn : GoodIn wsX9_yearOf wsX9_countsOn := goodIn_r _ [5, 6, 7, 8, 9, 4, 10, 11, 12, 13, 14, 15, 16, 17, 18, 19, 20, 21, 22, 23, 24, 25, 26, 27, 28, 29, 30, 31, 32, 33, 34, 35, 36, 37, 38, 39, 40, 41, 45, 46, 47, 48, 49, 50, 51, 52, 53, 54, 55, 56, 57, 58, 59, 60, 61, 62, 63, 64, 65, 66] (by decide +kernel) (by decide +kernel)
set_option maxRecDepth 20000 in
theorem gX9_yearOf_X9_countsOn : GoodIn wsX9_yearOf (wsV RX9 142 RX9 yX9_countsOn wsX9_countsOn) := goodIn_app (goodIn_of _ (by decide +kernel)) ggX9_yearOf_X9_countsOn
set_option maxRecDepth 20000 in
theorem ggX9_yearOf_X9_relieved : GoodIn wsX9_yearOf wsX9_relieved := goodIn_r _ [44] (by decide +kernel) (by decide +kernel)
set_option maxRecDepth 20000 in
theorem gX9_yearOf_X9_relieved : GoodIn wsX9_yearOf (va_wsS RX9 145 yX9_relieved wsX9_relieved) := goodIn_app (goodIn_of _ (by decide +kernel)) ggX9_yearOf_X9_relieved
theorem dX9_yearOf_0 : decode cX9_yearOf 0 = .ok (.lconst 0, 1) := by decide +kernel
theorem dX9_yearOf_1 : decode cX9_yearOf 1 = .ok (.lstore_n 3, 1) := by decide +kernel
theorem dX9_yearOf_2 : decode cX9_yearOf 2 = .ok (.sipush 365, 3) := by decide +kernel
theorem dX9_yearOf_5 : decode cX9_yearOf 5 = .ok (.iload_n 2, 1) := by decide +kernel
theorem dX9_yearOf_6 : decode cX9_yearOf 6 = .ok (.imul, 1) := by decide +kernel
theorem dX9_yearOf_7 : decode cX9_yearOf 7 = .ok (.istore 5, 2) := by decide +kernel
theorem dX9_yearOf_9 : decode cX9_yearOf 9 = .ok (.iload 5, 2) := by decide +kernel
theorem dX9_yearOf_11 : decode cX9_yearOf 11 = .ok (.sipush 365, 3) := by decide +kernel
theorem dX9_yearOf_14 : decode cX9_yearOf 14 = .ok (.iload_n 2, 1) := by decide +kernel
theorem dX9_yearOf_15 : decode cX9_yearOf 15 = .ok (.imul, 1) := by decide +kernel
theorem dX9_yearOf_16 : decode cX9_yearOf 16 = .ok (.sipush 365, 3) := by decide +kernel
theorem dX9_yearOf_19 : decode cX9_yearOf 19 = .ok (.iadd, 1) := by decide +kernel
theorem dX9_yearOf_20 : decode cX9_yearOf 20 = .ok (.if_icmp .ge 23, 3) := by decide +kernel
theorem dX9_yearOf_23 : decode cX9_yearOf 23 = .ok (.lload_n 3, 1) := by decide +kernel
theorem dX9_yearOf_24 : decode cX9_yearOf 24 = .ok (.aload_n 0, 1) := by decide +kernel
theorem dX9_yearOf_25 : decode cX9_yearOf 25 = .ok (.iload_n 1, 1) := by decide +kernel
theorem dX9_yearOf_26 : decode cX9_yearOf 26 = .ok (.iload 5, 2) := by decide +kernel
theorem dX9_yearOf_28 : decode cX9_yearOf 28 = .ok (.invokevirtual 142, 3) := by decide +kernel
theorem dX9_yearOf_31 : decode cX9_yearOf 31 = .ok (.invokestatic 145, 3) := by decide +kernel
theorem dX9_yearOf_34 : decode cX9_yearOf 34 = .ok (.i2l, 1) := by decide +kernel
theorem dX9_yearOf_35 : decode cX9_yearOf 35 = .ok (.ladd, 1) := by decide +kernel
theorem dX9_yearOf_36 : decode cX9_yearOf 36 = .ok (.lstore_n 3, 1) := by decide +kernel
theorem dX9_yearOf_37 : decode cX9_yearOf 37 = .ok (.iinc 5 1, 3) := by decide +kernel
theorem dX9_yearOf_40 : decode cX9_yearOf 40 = .ok (.goto (-31), 3) := by decide +kernel
theorem dX9_yearOf_43 : decode cX9_yearOf 43 = .ok (.lload_n 3, 1) := by decide +kernel
theorem dX9_yearOf_44 : decode cX9_yearOf 44 = .ok (.lreturn, 1) := by decide +kernel
end
section
set_option maxRecDepth 20000 in
theorem ggX9_year_X9_isHouse : GoodIn wsX9_year wsX9_isHouse := goodIn_r _ [6, 7, 8, 9, 5, 10, 61, 62, 63, 64, 65, 66, 67, 68, 69, 70, 71, 72, 73, 74, 75, 76, 77, 78, 79, 80, 81, 82] (by decide +kernel) (by decide +kernel)
set_option maxRecDepth 20000 in
theorem gX9_year_X9_isHouse : GoodIn wsX9_year (wsV RX9 75 RX9 yX9_isHouse wsX9_isHouse) := goodIn_app (goodIn_of _ (by decide +kernel)) ggX9_year_X9_isHouse
set_option maxRecDepth 20000 in
theorem ggX9_year_X9_isYear : GoodIn wsX9_year wsX9_isYear := goodIn_r _ [13, 8, 9, 5, 10] (by decide +kernel) (by decide +kernel)
set_option maxRecDepth 20000 in
theorem gX9_year_X9_isYear : GoodIn wsX9_year (va_wsS RX9 148 yX9_isYear wsX9_isYear) := goodIn_app (goodIn_of _ (by decide +kernel)) ggX9_year_X9_isYear
set_option maxRecDepth 20000 in
theorem ggX9_year_X9_yearOf : GoodIn wsX9_year wsX9_yearOf := goodIn_r _ [17, 18, 19, 20, 5, 21, 22, 23, 24, 25, 26, 27, 28, 29, 30, 31, 32, 33, 34, 35, 36, 37, 38, 39, 40, 41, 42, 43, 44, 45, 46, 47, 48, 49, 50, 51, 52, 53, 54, 55, 56, 57, 58, 59, 60, 61, 62, 63, 64, 65, 66, 67, 68, 69, 70, 71, 72, 73, 74, 75, 76, 77, 78, 79, 80, 81, 82] (by decide +kernel) (by decide +kernel)
set_option maxRecDepth 20000 in
theorem gX9_year_X9_yearOf : GoodIn wsX9_year (wsV RX9 151 RX9 yX9_yearOf wsX9_yearOf) := goodIn_app (goodIn_of _ (by decide +kernel)) ggX9_year_X9_yearOf
theorem dX9_year_0 : decode cX9_year 0 = .ok (.aload_n 0, 1) := by decide +kernel
theorem dX9_year_1 : decode cX9_year 1 = .ok (.iload_n 1, 1) := by decide +kernel
theorem dX9_year_2 : decode cX9_year 2 = .ok (.invokevirtual 75, 3) := by decide +kernel
theorem dX9_year_5 : decode cX9_year 5 = .ok (.ifCond .eq 19, 3) := by decide +kernel
theorem dX9_year_8 : decode cX9_year 8 = .ok (.iload_n 2, 1) := by decide +kernel
theorem dX9_year_9 : decode cX9_year 9 = .ok (.invokestatic 148, 3) := by decide +kernel
theorem dX9_year_12 : decode cX9_year 12 = .ok (.ifCond .eq 12, 3) := by decide +kernel
theorem dX9_year_15 : decode cX9_year 15 = .ok (.aload_n 0, 1) := by decide +kernel
theorem dX9_year_16 : decode cX9_year 16 = .ok (.iload_n 1, 1) := by decide +kernel
theorem dX9_year_17 : decode cX9_year 17 = .ok (.iload_n 2, 1) := by decide +kernel
theorem dX9_year_18 : decode cX9_year 18 = .ok (.invokevirtual 151, 3) := by decide +kernel
theorem dX9_year_21 : decode cX9_year 21 = .ok (.goto 6, 3) := by decide +kernel
theorem dX9_year_24 : decode cX9_year 24 = .ok (.ldc2_w 155, 3) := by decide +kernel
theorem dX9_year_27 : decode cX9_year 27 = .ok (.lreturn, 1) := by decide +kernel
set_option maxRecDepth 20000 in
theorem ggX9_bill_X9_isHouse : GoodIn wsX9_bill wsX9_isHouse := goodIn_r _ [6, 7, 8, 9, 5, 10, 61, 62, 63, 64, 65, 66, 67, 68, 69, 70, 71, 72, 73, 74, 75, 76, 77, 78, 79, 80, 81, 82] (by decide +kernel) (by decide +kernel)
set_option maxRecDepth 20000 in
theorem gX9_bill_X9_isHouse : GoodIn wsX9_bill (wsV RX9 75 RX9 yX9_isHouse wsX9_isHouse) := goodIn_app (goodIn_of _ (by decide +kernel)) ggX9_bill_X9_isHouse
set_option maxRecDepth 20000 in
theorem ggX9_bill_X9_isYear : GoodIn wsX9_bill wsX9_isYear := goodIn_r _ [13, 8, 9, 5, 10] (by decide +kernel) (by decide +kernel)
set_option maxRecDepth 20000 in
theorem gX9_bill_X9_isYear : GoodIn wsX9_bill (va_wsS RX9 148 yX9_isYear wsX9_isYear) := goodIn_app (goodIn_of _ (by decide +kernel)) ggX9_bill_X9_isYear
set_option maxRecDepth 20000 in
theorem ggX9_bill_X9_in : GoodIn wsX9_bill wsX9_in := goodIn_r _ [10] (by decide +kernel) (by decide +kernel)
set_option maxRecDepth 20000 in
theorem gX9_bill_X9_in : GoodIn wsX9_bill (va_wsS RX9 70 yX9_in wsX9_in) := goodIn_app (goodIn_of _ (by decide +kernel)) ggX9_bill_X9_in
set_option maxRecDepth 20000 in
theorem ggX9_bill_X9_yearOf : GoodIn wsX9_bill wsX9_yearOf := goodIn_r _ [17, 18, 19, 20, 5, 21, 22, 23, 24, 25, 26, 27, 28, 29, 30, 31, 32, 33, 34, 35, 36, 37, 38, 39, 40, 41, 42, 43, 44, 45, 46, 47, 48, 49, 50, 51, 52, 53, 54, 55, 56, 57, 58, 59, 60, 61, 62, 63, 64, 65, 66, 67, 68, 69, 70, 71, 72, 73, 74, 75, 76, 77, 78, 79, 80, 81, 82] (by decide +kernel) (by decide +kernel)
set_option maxRecDepth 20000 in
theorem gX9_bill_X9_yearOf : GoodIn wsX9_bill (wsV RX9 151 RX9 yX9_yearOf wsX9_yearOf) := goodIn_app (goodIn_of _ (by decide +kernel)) ggX9_bill_X9_yearOf
theorem dX9_bill_0 : decode cX9_bill 0 = .ok (.aload_n 0, 1) := by decide +kernel
theorem dX9_bill_1 : decode cX9_bill 1 = .ok (.iload_n 1, 1) := by decide +kernel
theorem dX9_bill_2 : decode cX9_bill 2 = .ok (.invokevirtual 75, 3) := by decide +kernel
theorem dX9_bill_5 : decode cX9_bill 5 = .ok (.ifCond .eq 38, 3) := by decide +kernel
theorem dX9_bill_8 : decode cX9_bill 8 = .ok (.iload_n 2, 1) := by decide +kernel
theorem dX9_bill_9 : decode cX9_bill 9 = .ok (.invokestatic 148, 3) := by decide +kernel
theorem dX9_bill_12 : decode cX9_bill 12 = .ok (.ifCond .eq 31, 3) := by decide +kernel
theorem dX9_bill_15 : decode cX9_bill 15 = .ok (.iload_n 3, 1) := by decide +kernel
theorem dX9_bill_16 : decode cX9_bill 16 = .ok (.iconst 0, 1) := by decide +kernel
theorem dX9_bill_17 : decode cX9_bill 17 = .ok (.sipush 3000, 3) := by decide +kernel
theorem dX9_bill_20 : decode cX9_bill 20 = .ok (.invokestatic 70, 3) := by decide +kernel
theorem dX9_bill_23 : decode cX9_bill 23 = .ok (.ifCond .eq 20, 3) := by decide +kernel
theorem dX9_bill_26 : decode cX9_bill 26 = .ok (.aload_n 0, 1) := by decide +kernel
theorem dX9_bill_27 : decode cX9_bill 27 = .ok (.iload_n 1, 1) := by decide +kernel
theorem dX9_bill_28 : decode cX9_bill 28 = .ok (.iload_n 2, 1) := by decide +kernel
theorem dX9_bill_29 : decode cX9_bill 29 = .ok (.invokevirtual 151, 3) := by decide +kernel
theorem dX9_bill_32 : decode cX9_bill 32 = .ok (.iload_n 3, 1) := by decide +kernel
theorem dX9_bill_33 : decode cX9_bill 33 = .ok (.i2l, 1) := by decide +kernel
theorem dX9_bill_34 : decode cX9_bill 34 = .ok (.lmul, 1) := by decide +kernel
theorem dX9_bill_35 : decode cX9_bill 35 = .ok (.ldc2_w 157, 3) := by decide +kernel
theorem dX9_bill_38 : decode cX9_bill 38 = .ok (.ldiv, 1) := by decide +kernel
theorem dX9_bill_39 : decode cX9_bill 39 = .ok (.l2i, 1) := by decide +kernel
theorem dX9_bill_40 : decode cX9_bill 40 = .ok (.goto 4, 3) := by decide +kernel
theorem dX9_bill_43 : decode cX9_bill 43 = .ok (.iconst (-1), 1) := by decide +kernel
theorem dX9_bill_44 : decode cX9_bill 44 = .ok (.ireturn, 1) := by decide +kernel
set_option maxRecDepth 20000 in
theorem ggX9_least_X9_yearOf : GoodIn wsX9_least wsX9_yearOf := goodIn_r _ [8, 9, 10, 11, 7, 12, 13, 14, 15, 16, 17, 18, 19, 20, 21, 22, 23, 24, 25, 26, 27, 28, 29, 30, 31, 32, 33, 34, 35, 36, 37, 38, 39, 40, 41, 42, 43, 44, 45, 46, 47, 48, 49, 50, 51, 52, 53, 54, 55, 56, 57, 58, 59, 60, 61, 62, 63, 64, 65, 66, 67, 68, 69, 70, 71, 72, 73] (by decide +kernel) (by decide +kernel)
set_option maxRecDepth 20000 in
theorem gX9_least_X9_yearOf : GoodIn wsX9_least (wsV RX9 151 RX9 yX9_yearOf wsX9_yearOf) := goodIn_app (goodIn_of _ (by decide +kernel)) ggX9_least_X9_yearOf
theorem dX9_least_0 : decode cX9_least 0 = .ok (.iconst 0, 1) := by decide +kernel
theorem dX9_least_1 : decode cX9_least 1 = .ok (.istore_n 3, 1) := by decide +kernel
theorem dX9_least_2 : decode cX9_least 2 = .ok (.iload_n 3, 1) := by decide +kernel
theorem dX9_least_3 : decode cX9_least 3 = .ok (.aload_n 0, 1) := by decide +kernel
theorem dX9_least_4 : decode cX9_least 4 = .ok (.getfield 66, 3) := by decide +kernel
theorem dX9_least_7 : decode cX9_least 7 = .ok (.if_icmp .ge 21, 3) := by decide +kernel
theorem dX9_least_10 : decode cX9_least 10 = .ok (.aload_n 0, 1) := by decide +kernel
theorem dX9_least_11 : decode cX9_least 11 = .ok (.getfield 62, 3) := by decide +kernel
theorem dX9_least_14 : decode cX9_least 14 = .ok (.iload_n 3, 1) := by decide +kernel
theorem dX9_least_15 : decode cX9_least 15 = .ok (.aload_n 0, 1) := by decide +kernel
theorem dX9_least_16 : decode cX9_least 16 = .ok (.iload_n 3, 1) := by decide +kernel
theorem dX9_least_17 : decode cX9_least 17 = .ok (.iload_n 1, 1) := by decide +kernel
theorem dX9_least_18 : decode cX9_least 18 = .ok (.invokevirtual 151, 3) := by decide +kernel
theorem dX9_least_21 : decode cX9_least 21 = .ok (.lastore, 1) := by decide +kernel
theorem dX9_least_22 : decode cX9_least 22 = .ok (.iinc 3 1, 3) := by decide +kernel
theorem dX9_least_25 : decode cX9_least 25 = .ok (.goto (-23), 3) := by decide +kernel
theorem dX9_least_28 : decode cX9_least 28 = .ok (.iconst 0, 1) := by decide +kernel
theorem dX9_least_29 : decode cX9_least 29 = .ok (.istore_n 3, 1) := by decide +kernel
theorem dX9_least_30 : decode cX9_least 30 = .ok (.iload_n 3, 1) := by decide +kernel
theorem dX9_least_31 : decode cX9_least 31 = .ok (.sipush 3000, 3) := by decide +kernel
theorem dX9_least_34 : decode cX9_least 34 = .ok (.if_icmp .gt 59, 3) := by decide +kernel
theorem dX9_least_37 : decode cX9_least 37 = .ok (.lconst 0, 1) := by decide +kernel
theorem dX9_least_38 : decode cX9_least 38 = .ok (.lstore 4, 2) := by decide +kernel
theorem dX9_least_40 : decode cX9_least 40 = .ok (.iconst 0, 1) := by decide +kernel
theorem dX9_least_41 : decode cX9_least 41 = .ok (.istore 6, 2) := by decide +kernel
theorem dX9_least_43 : decode cX9_least 43 = .ok (.iload 6, 2) := by decide +kernel
theorem dX9_least_45 : decode cX9_least 45 = .ok (.aload_n 0, 1) := by decide +kernel
theorem dX9_least_46 : decode cX9_least 46 = .ok (.getfield 66, 3) := by decide +kernel
theorem dX9_least_49 : decode cX9_least 49 = .ok (.if_icmp .ge 28, 3) := by decide +kernel
theorem dX9_least_52 : decode cX9_least 52 = .ok (.lload 4, 2) := by decide +kernel
theorem dX9_least_54 : decode cX9_least 54 = .ok (.aload_n 0, 1) := by decide +kernel
theorem dX9_least_55 : decode cX9_least 55 = .ok (.getfield 62, 3) := by decide +kernel
theorem dX9_least_58 : decode cX9_least 58 = .ok (.iload 6, 2) := by decide +kernel
theorem dX9_least_60 : decode cX9_least 60 = .ok (.laload, 1) := by decide +kernel
theorem dX9_least_61 : decode cX9_least 61 = .ok (.iload_n 3, 1) := by decide +kernel
theorem dX9_least_62 : decode cX9_least 62 = .ok (.i2l, 1) := by decide +kernel
theorem dX9_least_63 : decode cX9_least 63 = .ok (.lmul, 1) := by decide +kernel
theorem dX9_least_64 : decode cX9_least 64 = .ok (.ldc2_w 157, 3) := by decide +kernel
theorem dX9_least_67 : decode cX9_least 67 = .ok (.ldiv, 1) := by decide +kernel
theorem dX9_least_68 : decode cX9_least 68 = .ok (.ladd, 1) := by decide +kernel
theorem dX9_least_69 : decode cX9_least 69 = .ok (.lstore 4, 2) := by decide +kernel
theorem dX9_least_71 : decode cX9_least 71 = .ok (.iinc 6 1, 3) := by decide +kernel
theorem dX9_least_74 : decode cX9_least 74 = .ok (.goto (-31), 3) := by decide +kernel
theorem dX9_least_77 : decode cX9_least 77 = .ok (.lload 4, 2) := by decide +kernel
theorem dX9_least_79 : decode cX9_least 79 = .ok (.iload_n 2, 1) := by decide +kernel
theorem dX9_least_80 : decode cX9_least 80 = .ok (.i2l, 1) := by decide +kernel
theorem dX9_least_81 : decode cX9_least 81 = .ok (.lcmp, 1) := by decide +kernel
theorem dX9_least_82 : decode cX9_least 82 = .ok (.ifCond .lt 5, 3) := by decide +kernel
theorem dX9_least_85 : decode cX9_least 85 = .ok (.iload_n 3, 1) := by decide +kernel
theorem dX9_least_86 : decode cX9_least 86 = .ok (.ireturn, 1) := by decide +kernel
theorem dX9_least_87 : decode cX9_least 87 = .ok (.iinc 3 1, 3) := by decide +kernel
theorem dX9_least_90 : decode cX9_least 90 = .ok (.goto (-60), 3) := by decide +kernel
theorem dX9_least_93 : decode cX9_least 93 = .ok (.bipush (-4), 2) := by decide +kernel
theorem dX9_least_95 : decode cX9_least 95 = .ok (.ireturn, 1) := by decide +kernel
set_option maxRecDepth 20000 in
theorem ggX9_poundage_X9_isYear : GoodIn wsX9_poundage wsX9_isYear := goodIn_r _ [5, 6, 7, 4, 8] (by decide +kernel) (by decide +kernel)
set_option maxRecDepth 20000 in
theorem gX9_poundage_X9_isYear : GoodIn wsX9_poundage (va_wsS RX9 148 yX9_isYear wsX9_isYear) := goodIn_app (goodIn_of _ (by decide +kernel)) ggX9_poundage_X9_isYear
set_option maxRecDepth 20000 in
theorem ggX9_poundage_X9_in : GoodIn wsX9_poundage wsX9_in := goodIn_r _ [8] (by decide +kernel) (by decide +kernel)
set_option maxRecDepth 20000 in
theorem gX9_poundage_X9_in : GoodIn wsX9_poundage (va_wsS RX9 70 yX9_in wsX9_in) := goodIn_app (goodIn_of _ (by decide +kernel)) ggX9_poundage_X9_in
set_option maxRecDepth 20000 in
theorem ggX9_poundage_X9_least : GoodIn wsX9_poundage wsX9_least := goodIn_r _ [12, 13, 14, 15, 16, 17, 18, 4, 19, 20, 21, 22, 23, 24, 25, 26, 27, 28, 29, 30, 31, 32, 33, 34, 35, 36, 37, 38, 39, 40, 41, 42, 43, 44, 45, 46, 47, 48, 49, 50, 51, 52, 53, 54, 55, 56, 57, 58, 59, 60, 61, 62, 63, 64, 65, 66, 67, 68, 69, 70, 71, 72, 73, 74, 75, 76, 77, 78, 79, 80, 81, 82, 83, 84] (by decide +kernel) (by decide +kernel)
set_option maxRecDepth 20000 in
theorem gX9_poundage_X9_least : GoodIn wsX9_poundage (wsV RX9 160 RX9 yX9_least wsX9_least) := goodIn_app (goodIn_of _ (by decide +kernel)) ggX9_poundage_X9_least
theorem dX9_poundage_0 : decode cX9_poundage 0 = .ok (.iload_n 1, 1) := by decide +kernel
theorem dX9_poundage_1 : decode cX9_poundage 1 = .ok (.invokestatic 148, 3) := by decide +kernel
theorem dX9_poundage_4 : decode cX9_poundage 4 = .ok (.ifCond .eq 22, 3) := by decide +kernel
theorem dX9_poundage_7 : decode cX9_poundage 7 = .ok (.iload_n 2, 1) := by decide +kernel
theorem dX9_poundage_8 : decode cX9_poundage 8 = .ok (.iconst 0, 1) := by decide +kernel
theorem dX9_poundage_9 : decode cX9_poundage 9 = .ok (.ldc 159, 2) := by decide +kernel
theorem dX9_poundage_11 : decode cX9_poundage 11 = .ok (.invokestatic 70, 3) := by decide +kernel
theorem dX9_poundage_14 : decode cX9_poundage 14 = .ok (.ifCond .eq 12, 3) := by decide +kernel
theorem dX9_poundage_17 : decode cX9_poundage 17 = .ok (.aload_n 0, 1) := by decide +kernel
theorem dX9_poundage_18 : decode cX9_poundage 18 = .ok (.iload_n 1, 1) := by decide +kernel
theorem dX9_poundage_19 : decode cX9_poundage 19 = .ok (.iload_n 2, 1) := by decide +kernel
theorem dX9_poundage_20 : decode cX9_poundage 20 = .ok (.invokevirtual 160, 3) := by decide +kernel
theorem dX9_poundage_23 : decode cX9_poundage 23 = .ok (.goto 4, 3) := by decide +kernel
theorem dX9_poundage_26 : decode cX9_poundage 26 = .ok (.iconst (-1), 1) := by decide +kernel
theorem dX9_poundage_27 : decode cX9_poundage 27 = .ok (.ireturn, 1) := by decide +kernel
set_option maxRecDepth 20000 in
theorem ggX9_struck_X9_isYear : GoodIn wsX9_struck wsX9_isYear := goodIn_r _ [12, 13, 14, 11, 15] (by decide +kernel) (by decide +kernel)
set_option maxRecDepth 20000 in
theorem gX9_struck_X9_isYear : GoodIn wsX9_struck (va_wsS RX9 148 yX9_isYear wsX9_isYear) := goodIn_app (goodIn_of _ (by decide +kernel)) ggX9_struck_X9_isYear
set_option maxRecDepth 20000 in
theorem ggX9_struck_X9_in : GoodIn wsX9_struck wsX9_in := goodIn_r _ [15] (by decide +kernel) (by decide +kernel)
set_option maxRecDepth 20000 in
theorem gX9_struck_X9_in : GoodIn wsX9_struck (va_wsS RX9 70 yX9_in wsX9_in) := goodIn_app (goodIn_of _ (by decide +kernel)) ggX9_struck_X9_in
set_option maxRecDepth 20000 in
theorem ggX9_struck_X9_least : GoodIn wsX9_struck wsX9_least := goodIn_r _ [19, 5, 7, 8, 20, 21, 22, 11, 23, 24, 25, 26, 27, 28, 29, 30, 31, 32, 33, 34, 35, 36, 37, 38, 39, 40, 41, 42, 43, 44, 45, 46, 47, 48, 49, 50, 51, 52, 53, 54, 55, 56, 57, 58, 59, 60, 61, 62, 63, 64, 65, 66, 67, 68, 69, 70, 71, 72, 73, 74, 75, 76, 77, 78, 79, 80, 81, 82, 83, 84, 85, 86, 87, 88] (by decide +kernel) (by decide +kernel)
set_option maxRecDepth 20000 in
theorem gX9_struck_X9_least : GoodIn wsX9_struck (wsV RX9 160 RX9 yX9_least wsX9_least) := goodIn_app (goodIn_of _ (by decide +kernel)) ggX9_struck_X9_least
theorem dX9_struck_0 : decode cX9_struck 0 = .ok (.iload_n 1, 1) := by decide +kernel
theorem dX9_struck_1 : decode cX9_struck 1 = .ok (.invokestatic 148, 3) := by decide +kernel
theorem dX9_struck_4 : decode cX9_struck 4 = .ok (.ifCond .eq 13, 3) := by decide +kernel
theorem dX9_struck_7 : decode cX9_struck 7 = .ok (.iload_n 2, 1) := by decide +kernel
theorem dX9_struck_8 : decode cX9_struck 8 = .ok (.iconst 0, 1) := by decide +kernel
theorem dX9_struck_9 : decode cX9_struck 9 = .ok (.ldc 159, 2) := by decide +kernel
theorem dX9_struck_11 : decode cX9_struck 11 = .ok (.invokestatic 70, 3) := by decide +kernel
theorem dX9_struck_14 : decode cX9_struck 14 = .ok (.ifCond .ne 5, 3) := by decide +kernel
theorem dX9_struck_17 : decode cX9_struck 17 = .ok (.iconst (-1), 1) := by decide +kernel
theorem dX9_struck_18 : decode cX9_struck 18 = .ok (.ireturn, 1) := by decide +kernel
theorem dX9_struck_19 : decode cX9_struck 19 = .ok (.aload_n 0, 1) := by decide +kernel
theorem dX9_struck_20 : decode cX9_struck 20 = .ok (.iload_n 1, 1) := by decide +kernel
theorem dX9_struck_21 : decode cX9_struck 21 = .ok (.iload_n 2, 1) := by decide +kernel
theorem dX9_struck_22 : decode cX9_struck 22 = .ok (.invokevirtual 160, 3) := by decide +kernel
theorem dX9_struck_25 : decode cX9_struck 25 = .ok (.istore_n 3, 1) := by decide +kernel
theorem dX9_struck_26 : decode cX9_struck 26 = .ok (.iload_n 3, 1) := by decide +kernel
theorem dX9_struck_27 : decode cX9_struck 27 = .ok (.ifCond .ge 6, 3) := by decide +kernel
theorem dX9_struck_30 : decode cX9_struck 30 = .ok (.bipush (-2), 2) := by decide +kernel
theorem dX9_struck_32 : decode cX9_struck 32 = .ok (.ireturn, 1) := by decide +kernel
theorem dX9_struck_33 : decode cX9_struck 33 = .ok (.aload_n 0, 1) := by decide +kernel
theorem dX9_struck_34 : decode cX9_struck 34 = .ok (.getfield 46, 3) := by decide +kernel
theorem dX9_struck_37 : decode cX9_struck 37 = .ok (.iload_n 1, 1) := by decide +kernel
theorem dX9_struck_38 : decode cX9_struck 38 = .ok (.iconst 1, 1) := by decide +kernel
theorem dX9_struck_39 : decode cX9_struck 39 = .ok (.bastore, 1) := by decide +kernel
theorem dX9_struck_40 : decode cX9_struck 40 = .ok (.aload_n 0, 1) := by decide +kernel
theorem dX9_struck_41 : decode cX9_struck 41 = .ok (.getfield 50, 3) := by decide +kernel
theorem dX9_struck_44 : decode cX9_struck 44 = .ok (.iload_n 1, 1) := by decide +kernel
theorem dX9_struck_45 : decode cX9_struck 45 = .ok (.iload_n 3, 1) := by decide +kernel
theorem dX9_struck_46 : decode cX9_struck 46 = .ok (.iastore, 1) := by decide +kernel
theorem dX9_struck_47 : decode cX9_struck 47 = .ok (.aload_n 0, 1) := by decide +kernel
theorem dX9_struck_48 : decode cX9_struck 48 = .ok (.getfield 53, 3) := by decide +kernel
theorem dX9_struck_51 : decode cX9_struck 51 = .ok (.iload_n 1, 1) := by decide +kernel
theorem dX9_struck_52 : decode cX9_struck 52 = .ok (.iload_n 2, 1) := by decide +kernel
theorem dX9_struck_53 : decode cX9_struck 53 = .ok (.iastore, 1) := by decide +kernel
theorem dX9_struck_54 : decode cX9_struck 54 = .ok (.iconst 0, 1) := by decide +kernel
theorem dX9_struck_55 : decode cX9_struck 55 = .ok (.istore 4, 2) := by decide +kernel
theorem dX9_struck_57 : decode cX9_struck 57 = .ok (.iload 4, 2) := by decide +kernel
theorem dX9_struck_59 : decode cX9_struck 59 = .ok (.aload_n 0, 1) := by decide +kernel
theorem dX9_struck_60 : decode cX9_struck 60 = .ok (.getfield 66, 3) := by decide +kernel
theorem dX9_struck_63 : decode cX9_struck 63 = .ok (.if_icmp .ge 36, 3) := by decide +kernel
theorem dX9_struck_66 : decode cX9_struck 66 = .ok (.aload_n 0, 1) := by decide +kernel
theorem dX9_struck_67 : decode cX9_struck 67 = .ok (.getfield 56, 3) := by decide +kernel
theorem dX9_struck_70 : decode cX9_struck 70 = .ok (.bipush 10, 2) := by decide +kernel
theorem dX9_struck_72 : decode cX9_struck 72 = .ok (.iload 4, 2) := by decide +kernel
theorem dX9_struck_74 : decode cX9_struck 74 = .ok (.imul, 1) := by decide +kernel
theorem dX9_struck_75 : decode cX9_struck 75 = .ok (.iload_n 1, 1) := by decide +kernel
theorem dX9_struck_76 : decode cX9_struck 76 = .ok (.iadd, 1) := by decide +kernel
theorem dX9_struck_77 : decode cX9_struck 77 = .ok (.aload_n 0, 1) := by decide +kernel
theorem dX9_struck_78 : decode cX9_struck 78 = .ok (.getfield 62, 3) := by decide +kernel
theorem dX9_struck_81 : decode cX9_struck 81 = .ok (.iload 4, 2) := by decide +kernel
theorem dX9_struck_83 : decode cX9_struck 83 = .ok (.laload, 1) := by decide +kernel
theorem dX9_struck_84 : decode cX9_struck 84 = .ok (.iload_n 3, 1) := by decide +kernel
theorem dX9_struck_85 : decode cX9_struck 85 = .ok (.i2l, 1) := by decide +kernel
theorem dX9_struck_86 : decode cX9_struck 86 = .ok (.lmul, 1) := by decide +kernel
theorem dX9_struck_87 : decode cX9_struck 87 = .ok (.ldc2_w 157, 3) := by decide +kernel
theorem dX9_struck_90 : decode cX9_struck 90 = .ok (.ldiv, 1) := by decide +kernel
theorem dX9_struck_91 : decode cX9_struck 91 = .ok (.l2i, 1) := by decide +kernel
theorem dX9_struck_92 : decode cX9_struck 92 = .ok (.iastore, 1) := by decide +kernel
theorem dX9_struck_93 : decode cX9_struck 93 = .ok (.iinc 4 1, 3) := by decide +kernel
theorem dX9_struck_96 : decode cX9_struck 96 = .ok (.goto (-39), 3) := by decide +kernel
theorem dX9_struck_99 : decode cX9_struck 99 = .ok (.iload_n 3, 1) := by decide +kernel
theorem dX9_struck_100 : decode cX9_struck 100 = .ok (.ireturn, 1) := by decide +kernel
set_option maxRecDepth 20000 in
theorem ggX9_pay_X9_isHouse : GoodIn wsX9_pay wsX9_isHouse := goodIn_r _ [7, 8, 9, 10, 6, 11, 15, 16, 17, 18, 19, 20, 21, 22, 23, 24, 25, 26, 27, 28, 29, 30, 31, 32, 33, 34, 35, 36] (by decide +kernel) (by decide +kernel)
set_option maxRecDepth 20000 in
theorem gX9_pay_X9_isHouse : GoodIn wsX9_pay (wsV RX9 75 RX9 yX9_isHouse wsX9_isHouse) := goodIn_app (goodIn_of _ (by decide +kernel)) ggX9_pay_X9_isHouse
set_option maxRecDepth 20000 in
theorem ggX9_pay_X9_isYear : GoodIn wsX9_pay wsX9_isYear := goodIn_r _ [14, 9, 10, 6, 11] (by decide +kernel) (by decide +kernel)
set_option maxRecDepth 20000 in
theorem gX9_pay_X9_isYear : GoodIn wsX9_pay (va_wsS RX9 148 yX9_isYear wsX9_isYear) := goodIn_app (goodIn_of _ (by decide +kernel)) ggX9_pay_X9_isYear
set_option maxRecDepth 20000 in
theorem ggX9_pay_X9_in : GoodIn wsX9_pay wsX9_in := goodIn_r _ [11] (by decide +kernel) (by decide +kernel)
set_option maxRecDepth 20000 in
theorem gX9_pay_X9_in : GoodIn wsX9_pay (va_wsS RX9 70 yX9_in wsX9_in) := goodIn_app (goodIn_of _ (by decide +kernel)) ggX9_pay_X9_in
theorem dX9_pay_0 : decode cX9_pay 0 = .ok (.aload_n 0, 1) := by decide +kernel
theorem dX9_pay_1 : decode cX9_pay 1 = .ok (.iload_n 1, 1) := by decide +kernel
theorem dX9_pay_2 : decode cX9_pay 2 = .ok (.invokevirtual 75, 3) := by decide +kernel
theorem dX9_pay_5 : decode cX9_pay 5 = .ok (.ifCond .eq 20, 3) := by decide +kernel
theorem dX9_pay_8 : decode cX9_pay 8 = .ok (.iload_n 2, 1) := by decide +kernel
theorem dX9_pay_9 : decode cX9_pay 9 = .ok (.invokestatic 148, 3) := by decide +kernel
theorem dX9_pay_12 : decode cX9_pay 12 = .ok (.ifCond .eq 13, 3) := by decide +kernel
theorem dX9_pay_15 : decode cX9_pay 15 = .ok (.iload_n 3, 1) := by decide +kernel
theorem dX9_pay_16 : decode cX9_pay 16 = .ok (.iconst 1, 1) := by decide +kernel
theorem dX9_pay_17 : decode cX9_pay 17 = .ok (.ldc 163, 2) := by decide +kernel
theorem dX9_pay_19 : decode cX9_pay 19 = .ok (.invokestatic 70, 3) := by decide +kernel
theorem dX9_pay_22 : decode cX9_pay 22 = .ok (.ifCond .ne 5, 3) := by decide +kernel
theorem dX9_pay_25 : decode cX9_pay 25 = .ok (.iconst (-1), 1) := by decide +kernel
theorem dX9_pay_26 : decode cX9_pay 26 = .ok (.ireturn, 1) := by decide +kernel
theorem dX9_pay_27 : decode cX9_pay 27 = .ok (.aload_n 0, 1) := by decide +kernel
theorem dX9_pay_28 : decode cX9_pay 28 = .ok (.getfield 59, 3) := by decide +kernel
theorem dX9_pay_31 : decode cX9_pay 31 = .ok (.bipush 10, 2) := by decide +kernel
theorem dX9_pay_33 : decode cX9_pay 33 = .ok (.iload_n 1, 1) := by decide +kernel
theorem dX9_pay_34 : decode cX9_pay 34 = .ok (.imul, 1) := by decide +kernel
theorem dX9_pay_35 : decode cX9_pay 35 = .ok (.iload_n 2, 1) := by decide +kernel
theorem dX9_pay_36 : decode cX9_pay 36 = .ok (.iadd, 1) := by decide +kernel
theorem dX9_pay_37 : decode cX9_pay 37 = .ok (.iaload, 1) := by decide +kernel
theorem dX9_pay_38 : decode cX9_pay 38 = .ok (.iload_n 3, 1) := by decide +kernel
theorem dX9_pay_39 : decode cX9_pay 39 = .ok (.iadd, 1) := by decide +kernel
theorem dX9_pay_40 : decode cX9_pay 40 = .ok (.ldc 163, 2) := by decide +kernel
theorem dX9_pay_42 : decode cX9_pay 42 = .ok (.if_icmp .le 6, 3) := by decide +kernel
theorem dX9_pay_45 : decode cX9_pay 45 = .ok (.bipush (-3), 2) := by decide +kernel
theorem dX9_pay_47 : decode cX9_pay 47 = .ok (.ireturn, 1) := by decide +kernel
theorem dX9_pay_48 : decode cX9_pay 48 = .ok (.aload_n 0, 1) := by decide +kernel
theorem dX9_pay_49 : decode cX9_pay 49 = .ok (.getfield 59, 3) := by decide +kernel
theorem dX9_pay_52 : decode cX9_pay 52 = .ok (.bipush 10, 2) := by decide +kernel
theorem dX9_pay_54 : decode cX9_pay 54 = .ok (.iload_n 1, 1) := by decide +kernel
theorem dX9_pay_55 : decode cX9_pay 55 = .ok (.imul, 1) := by decide +kernel
theorem dX9_pay_56 : decode cX9_pay 56 = .ok (.iload_n 2, 1) := by decide +kernel
theorem dX9_pay_57 : decode cX9_pay 57 = .ok (.iadd, 1) := by decide +kernel
theorem dX9_pay_58 : decode cX9_pay 58 = .ok (.dup2, 1) := by decide +kernel
theorem dX9_pay_59 : decode cX9_pay 59 = .ok (.iaload, 1) := by decide +kernel
theorem dX9_pay_60 : decode cX9_pay 60 = .ok (.iload_n 3, 1) := by decide +kernel
theorem dX9_pay_61 : decode cX9_pay 61 = .ok (.iadd, 1) := by decide +kernel
theorem dX9_pay_62 : decode cX9_pay 62 = .ok (.iastore, 1) := by decide +kernel
theorem dX9_pay_63 : decode cX9_pay 63 = .ok (.aload_n 0, 1) := by decide +kernel
theorem dX9_pay_64 : decode cX9_pay 64 = .ok (.getfield 59, 3) := by decide +kernel
theorem dX9_pay_67 : decode cX9_pay 67 = .ok (.bipush 10, 2) := by decide +kernel
theorem dX9_pay_69 : decode cX9_pay 69 = .ok (.iload_n 1, 1) := by decide +kernel
theorem dX9_pay_70 : decode cX9_pay 70 = .ok (.imul, 1) := by decide +kernel
theorem dX9_pay_71 : decode cX9_pay 71 = .ok (.iload_n 2, 1) := by decide +kernel
theorem dX9_pay_72 : decode cX9_pay 72 = .ok (.iadd, 1) := by decide +kernel
theorem dX9_pay_73 : decode cX9_pay 73 = .ok (.iaload, 1) := by decide +kernel
theorem dX9_pay_74 : decode cX9_pay 74 = .ok (.ireturn, 1) := by decide +kernel
set_option maxRecDepth 20000 in
theorem ggX9_paid_X9_isHouse : GoodIn wsX9_paid wsX9_isHouse := goodIn_r _ [7, 8, 9, 10, 6, 11, 15, 16, 17, 18, 19, 20, 21, 22, 23, 24, 25, 26, 27, 28, 29, 30, 31, 32, 33, 34, 35, 36] (by decide +kernel) (by decide +kernel)
set_option maxRecDepth 20000 in
theorem gX9_paid_X9_isHouse : GoodIn wsX9_paid (wsV RX9 75 RX9 yX9_isHouse wsX9_isHouse) := goodIn_app (goodIn_of _ (by decide +kernel)) ggX9_paid_X9_isHouse
set_option maxRecDepth 20000 in
theorem ggX9_paid_X9_isYear : GoodIn wsX9_paid wsX9_isYear := goodIn_r _ [14, 9, 10, 6, 11] (by decide +kernel) (by decide +kernel)
set_option maxRecDepth 20000 in
theorem gX9_paid_X9_isYear : GoodIn wsX9_paid (va_wsS RX9 148 yX9_isYear wsX9_isYear) := goodIn_app (goodIn_of _ (by decide +kernel)) ggX9_paid_X9_isYear
set_option maxRecDepth 20000 in
theorem ggX9_paid_X9_in : GoodIn wsX9_paid wsX9_in := goodIn_r _ [11] (by decide +kernel) (by decide +kernel)
set_option maxRecDepth 20000 in
theorem gX9_paid_X9_in : GoodIn wsX9_paid (va_wsS RX9 70 yX9_in wsX9_in) := goodIn_app (goodIn_of _ (by decide +kernel)) ggX9_paid_X9_in
theorem dX9_paid_0 : decode cX9_paid 0 = .ok (.aload_n 0, 1) := by decide +kernel
theorem dX9_paid_1 : decode cX9_paid 1 = .ok (.iload_n 1, 1) := by decide +kernel
theorem dX9_paid_2 : decode cX9_paid 2 = .ok (.invokevirtual 75, 3) := by decide +kernel
theorem dX9_paid_5 : decode cX9_paid 5 = .ok (.ifCond .eq 19, 3) := by decide +kernel
theorem dX9_paid_8 : decode cX9_paid 8 = .ok (.iload_n 2, 1) := by decide +kernel
theorem dX9_paid_9 : decode cX9_paid 9 = .ok (.invokestatic 148, 3) := by decide +kernel
theorem dX9_paid_12 : decode cX9_paid 12 = .ok (.ifCond .eq 12, 3) := by decide +kernel
theorem dX9_paid_15 : decode cX9_paid 15 = .ok (.iload_n 3, 1) := by decide +kernel
theorem dX9_paid_16 : decode cX9_paid 16 = .ok (.iconst 0, 1) := by decide +kernel
theorem dX9_paid_17 : decode cX9_paid 17 = .ok (.iconst 1, 1) := by decide +kernel
theorem dX9_paid_18 : decode cX9_paid 18 = .ok (.invokestatic 70, 3) := by decide +kernel
theorem dX9_paid_21 : decode cX9_paid 21 = .ok (.ifCond .ne 5, 3) := by decide +kernel
theorem dX9_paid_24 : decode cX9_paid 24 = .ok (.iconst (-1), 1) := by decide +kernel
theorem dX9_paid_25 : decode cX9_paid 25 = .ok (.ireturn, 1) := by decide +kernel
theorem dX9_paid_26 : decode cX9_paid 26 = .ok (.iload_n 3, 1) := by decide +kernel
theorem dX9_paid_27 : decode cX9_paid 27 = .ok (.ifCond .ne 17, 3) := by decide +kernel
theorem dX9_paid_30 : decode cX9_paid 30 = .ok (.aload_n 0, 1) := by decide +kernel
theorem dX9_paid_31 : decode cX9_paid 31 = .ok (.getfield 56, 3) := by decide +kernel
theorem dX9_paid_34 : decode cX9_paid 34 = .ok (.bipush 10, 2) := by decide +kernel
theorem dX9_paid_36 : decode cX9_paid 36 = .ok (.iload_n 1, 1) := by decide +kernel
theorem dX9_paid_37 : decode cX9_paid 37 = .ok (.imul, 1) := by decide +kernel
theorem dX9_paid_38 : decode cX9_paid 38 = .ok (.iload_n 2, 1) := by decide +kernel
theorem dX9_paid_39 : decode cX9_paid 39 = .ok (.iadd, 1) := by decide +kernel
theorem dX9_paid_40 : decode cX9_paid 40 = .ok (.iaload, 1) := by decide +kernel
theorem dX9_paid_41 : decode cX9_paid 41 = .ok (.goto 14, 3) := by decide +kernel
theorem dX9_paid_44 : decode cX9_paid 44 = .ok (.aload_n 0, 1) := by decide +kernel
theorem dX9_paid_45 : decode cX9_paid 45 = .ok (.getfield 59, 3) := by decide +kernel
theorem dX9_paid_48 : decode cX9_paid 48 = .ok (.bipush 10, 2) := by decide +kernel
theorem dX9_paid_50 : decode cX9_paid 50 = .ok (.iload_n 1, 1) := by decide +kernel
theorem dX9_paid_51 : decode cX9_paid 51 = .ok (.imul, 1) := by decide +kernel
theorem dX9_paid_52 : decode cX9_paid 52 = .ok (.iload_n 2, 1) := by decide +kernel
theorem dX9_paid_53 : decode cX9_paid 53 = .ok (.iadd, 1) := by decide +kernel
theorem dX9_paid_54 : decode cX9_paid 54 = .ok (.iaload, 1) := by decide +kernel
theorem dX9_paid_55 : decode cX9_paid 55 = .ok (.ireturn, 1) := by decide +kernel
set_option maxRecDepth 20000 in
theorem ggX9_owed_X9_isHouse : GoodIn wsX9_owed wsX9_isHouse := goodIn_r _ [7, 8, 9, 10, 6, 11, 12, 13, 14, 15, 16, 17, 18, 19, 20, 21, 22, 23, 24, 25, 26, 27, 28, 29, 30, 31, 32, 33] (by decide +kernel) (by decide +kernel)
set_option maxRecDepth 20000 in
theorem gX9_owed_X9_isHouse : GoodIn wsX9_owed (wsV RX9 75 RX9 yX9_isHouse wsX9_isHouse) := goodIn_app (goodIn_of _ (by decide +kernel)) ggX9_owed_X9_isHouse
set_option maxRecDepth 20000 in
theorem ggX9_owed_X9_in : GoodIn wsX9_owed wsX9_in := goodIn_r _ [11] (by decide +kernel) (by decide +kernel)
set_option maxRecDepth 20000 in
theorem gX9_owed_X9_in : GoodIn wsX9_owed (va_wsS RX9 70 yX9_in wsX9_in) := goodIn_app (goodIn_of _ (by decide +kernel)) ggX9_owed_X9_in
theorem dX9_owed_0 : decode cX9_owed 0 = .ok (.aload_n 0, 1) := by decide +kernel
theorem dX9_owed_1 : decode cX9_owed 1 = .ok (.iload_n 1, 1) := by decide +kernel
theorem dX9_owed_2 : decode cX9_owed 2 = .ok (.invokevirtual 75, 3) := by decide +kernel
theorem dX9_owed_5 : decode cX9_owed 5 = .ok (.ifCond .eq 12, 3) := by decide +kernel
theorem dX9_owed_8 : decode cX9_owed 8 = .ok (.iload_n 2, 1) := by decide +kernel
theorem dX9_owed_9 : decode cX9_owed 9 = .ok (.iconst 0, 1) := by decide +kernel
theorem dX9_owed_10 : decode cX9_owed 10 = .ok (.iconst 1, 1) := by decide +kernel
theorem dX9_owed_11 : decode cX9_owed 11 = .ok (.invokestatic 70, 3) := by decide +kernel
theorem dX9_owed_14 : decode cX9_owed 14 = .ok (.ifCond .ne 5, 3) := by decide +kernel
theorem dX9_owed_17 : decode cX9_owed 17 = .ok (.iconst (-1), 1) := by decide +kernel
theorem dX9_owed_18 : decode cX9_owed 18 = .ok (.ireturn, 1) := by decide +kernel
theorem dX9_owed_19 : decode cX9_owed 19 = .ok (.iconst 0, 1) := by decide +kernel
theorem dX9_owed_20 : decode cX9_owed 20 = .ok (.istore_n 3, 1) := by decide +kernel
theorem dX9_owed_21 : decode cX9_owed 21 = .ok (.iconst 0, 1) := by decide +kernel
theorem dX9_owed_22 : decode cX9_owed 22 = .ok (.istore 4, 2) := by decide +kernel
theorem dX9_owed_24 : decode cX9_owed 24 = .ok (.iload 4, 2) := by decide +kernel
theorem dX9_owed_26 : decode cX9_owed 26 = .ok (.bipush 10, 2) := by decide +kernel
theorem dX9_owed_28 : decode cX9_owed 28 = .ok (.if_icmp .ge 85, 3) := by decide +kernel
theorem dX9_owed_31 : decode cX9_owed 31 = .ok (.aload_n 0, 1) := by decide +kernel
theorem dX9_owed_32 : decode cX9_owed 32 = .ok (.getfield 56, 3) := by decide +kernel
theorem dX9_owed_35 : decode cX9_owed 35 = .ok (.bipush 10, 2) := by decide +kernel
theorem dX9_owed_37 : decode cX9_owed 37 = .ok (.iload_n 1, 1) := by decide +kernel
theorem dX9_owed_38 : decode cX9_owed 38 = .ok (.imul, 1) := by decide +kernel
theorem dX9_owed_39 : decode cX9_owed 39 = .ok (.iload 4, 2) := by decide +kernel
theorem dX9_owed_41 : decode cX9_owed 41 = .ok (.iadd, 1) := by decide +kernel
theorem dX9_owed_42 : decode cX9_owed 42 = .ok (.iaload, 1) := by decide +kernel
theorem dX9_owed_43 : decode cX9_owed 43 = .ok (.bipush (-4), 2) := by decide +kernel
theorem dX9_owed_45 : decode cX9_owed 45 = .ok (.if_icmp .ne 7, 3) := by decide +kernel
theorem dX9_owed_48 : decode cX9_owed 48 = .ok (.iconst 0, 1) := by decide +kernel
theorem dX9_owed_49 : decode cX9_owed 49 = .ok (.goto 28, 3) := by decide +kernel
theorem dX9_owed_52 : decode cX9_owed 52 = .ok (.aload_n 0, 1) := by decide +kernel
theorem dX9_owed_53 : decode cX9_owed 53 = .ok (.getfield 56, 3) := by decide +kernel
theorem dX9_owed_56 : decode cX9_owed 56 = .ok (.bipush 10, 2) := by decide +kernel
theorem dX9_owed_58 : decode cX9_owed 58 = .ok (.iload_n 1, 1) := by decide +kernel
theorem dX9_owed_59 : decode cX9_owed 59 = .ok (.imul, 1) := by decide +kernel
theorem dX9_owed_60 : decode cX9_owed 60 = .ok (.iload 4, 2) := by decide +kernel
theorem dX9_owed_62 : decode cX9_owed 62 = .ok (.iadd, 1) := by decide +kernel
theorem dX9_owed_63 : decode cX9_owed 63 = .ok (.iaload, 1) := by decide +kernel
theorem dX9_owed_64 : decode cX9_owed 64 = .ok (.aload_n 0, 1) := by decide +kernel
theorem dX9_owed_65 : decode cX9_owed 65 = .ok (.getfield 59, 3) := by decide +kernel
theorem dX9_owed_68 : decode cX9_owed 68 = .ok (.bipush 10, 2) := by decide +kernel
theorem dX9_owed_70 : decode cX9_owed 70 = .ok (.iload_n 1, 1) := by decide +kernel
theorem dX9_owed_71 : decode cX9_owed 71 = .ok (.imul, 1) := by decide +kernel
theorem dX9_owed_72 : decode cX9_owed 72 = .ok (.iload 4, 2) := by decide +kernel
theorem dX9_owed_74 : decode cX9_owed 74 = .ok (.iadd, 1) := by decide +kernel
theorem dX9_owed_75 : decode cX9_owed 75 = .ok (.iaload, 1) := by decide +kernel
theorem dX9_owed_76 : decode cX9_owed 76 = .ok (.isub, 1) := by decide +kernel
theorem dX9_owed_77 : decode cX9_owed 77 = .ok (.istore 5, 2) := by decide +kernel
theorem dX9_owed_79 : decode cX9_owed 79 = .ok (.iload_n 2, 1) := by decide +kernel
theorem dX9_owed_80 : decode cX9_owed 80 = .ok (.ifCond .ne 8, 3) := by decide +kernel
theorem dX9_owed_83 : decode cX9_owed 83 = .ok (.iload 5, 2) := by decide +kernel
theorem dX9_owed_85 : decode cX9_owed 85 = .ok (.goto 6, 3) := by decide +kernel
theorem dX9_owed_88 : decode cX9_owed 88 = .ok (.iload 5, 2) := by decide +kernel
theorem dX9_owed_90 : decode cX9_owed 90 = .ok (.ineg, 1) := by decide +kernel
theorem dX9_owed_91 : decode cX9_owed 91 = .ok (.istore 5, 2) := by decide +kernel
theorem dX9_owed_93 : decode cX9_owed 93 = .ok (.iload_n 3, 1) := by decide +kernel
theorem dX9_owed_94 : decode cX9_owed 94 = .ok (.iload 5, 2) := by decide +kernel
theorem dX9_owed_96 : decode cX9_owed 96 = .ok (.ifCond .le 8, 3) := by decide +kernel
theorem dX9_owed_99 : decode cX9_owed 99 = .ok (.iload 5, 2) := by decide +kernel
theorem dX9_owed_101 : decode cX9_owed 101 = .ok (.goto 4, 3) := by decide +kernel
theorem dX9_owed_104 : decode cX9_owed 104 = .ok (.iconst 0, 1) := by decide +kernel
theorem dX9_owed_105 : decode cX9_owed 105 = .ok (.iadd, 1) := by decide +kernel
theorem dX9_owed_106 : decode cX9_owed 106 = .ok (.istore_n 3, 1) := by decide +kernel
theorem dX9_owed_107 : decode cX9_owed 107 = .ok (.iinc 4 1, 3) := by decide +kernel
theorem dX9_owed_110 : decode cX9_owed 110 = .ok (.goto (-86), 3) := by decide +kernel
theorem dX9_owed_113 : decode cX9_owed 113 = .ok (.iload_n 3, 1) := by decide +kernel
theorem dX9_owed_114 : decode cX9_owed 114 = .ok (.ireturn, 1) := by decide +kernel
set_option maxRecDepth 20000 in
theorem ggX9_ward_X9_in : GoodIn wsX9_ward wsX9_in := goodIn_r _ [11] (by decide +kernel) (by decide +kernel)
set_option maxRecDepth 20000 in
theorem gX9_ward_X9_in : GoodIn wsX9_ward (va_wsS RX9 70 yX9_in wsX9_in) := goodIn_app (goodIn_of _ (by decide +kernel)) ggX9_ward_X9_in
set_option maxRecDepth 20000 in
theorem ggX9_ward_X9_isYear : GoodIn wsX9_ward wsX9_isYear := goodIn_r _ [14, 8, 9, 10, 11] (by decide +kernel) (by decide +kernel)
set_option maxRecDepth 20000 in
theorem gX9_ward_X9_isYear : GoodIn wsX9_ward (va_wsS RX9 148 yX9_isYear wsX9_isYear) := goodIn_app (goodIn_of _ (by decide +kernel)) ggX9_ward_X9_isYear
theorem dX9_ward_0 : decode cX9_ward 0 = .ok (.iload_n 1, 1) := by decide +kernel
theorem dX9_ward_1 : decode cX9_ward 1 = .ok (.iconst (-1), 1) := by decide +kernel
theorem dX9_ward_2 : decode cX9_ward 2 = .ok (.iconst 3, 1) := by decide +kernel
theorem dX9_ward_3 : decode cX9_ward 3 = .ok (.invokestatic 70, 3) := by decide +kernel
theorem dX9_ward_6 : decode cX9_ward 6 = .ok (.ifCond .eq 19, 3) := by decide +kernel
theorem dX9_ward_9 : decode cX9_ward 9 = .ok (.iload_n 2, 1) := by decide +kernel
theorem dX9_ward_10 : decode cX9_ward 10 = .ok (.invokestatic 148, 3) := by decide +kernel
theorem dX9_ward_13 : decode cX9_ward 13 = .ok (.ifCond .eq 12, 3) := by decide +kernel
theorem dX9_ward_16 : decode cX9_ward 16 = .ok (.iload_n 3, 1) := by decide +kernel
theorem dX9_ward_17 : decode cX9_ward 17 = .ok (.iconst 0, 1) := by decide +kernel
theorem dX9_ward_18 : decode cX9_ward 18 = .ok (.iconst 3, 1) := by decide +kernel
theorem dX9_ward_19 : decode cX9_ward 19 = .ok (.invokestatic 70, 3) := by decide +kernel
theorem dX9_ward_22 : decode cX9_ward 22 = .ok (.ifCond .ne 5, 3) := by decide +kernel
theorem dX9_ward_25 : decode cX9_ward 25 = .ok (.iconst (-1), 1) := by decide +kernel
theorem dX9_ward_26 : decode cX9_ward 26 = .ok (.ireturn, 1) := by decide +kernel
theorem dX9_ward_27 : decode cX9_ward 27 = .ok (.aload_n 0, 1) := by decide +kernel
theorem dX9_ward_28 : decode cX9_ward 28 = .ok (.getfield 46, 3) := by decide +kernel
theorem dX9_ward_31 : decode cX9_ward 31 = .ok (.iload_n 2, 1) := by decide +kernel
theorem dX9_ward_32 : decode cX9_ward 32 = .ok (.baload, 1) := by decide +kernel
theorem dX9_ward_33 : decode cX9_ward 33 = .ok (.ifCond .ne 6, 3) := by decide +kernel
theorem dX9_ward_36 : decode cX9_ward 36 = .ok (.bipush (-2), 2) := by decide +kernel
theorem dX9_ward_38 : decode cX9_ward 38 = .ok (.ireturn, 1) := by decide +kernel
theorem dX9_ward_39 : decode cX9_ward 39 = .ok (.iload_n 3, 1) := by decide +kernel
theorem dX9_ward_40 : decode cX9_ward 40 = .ok (.iconst 1, 1) := by decide +kernel
theorem dX9_ward_41 : decode cX9_ward 41 = .ok (.if_icmp .le 24, 3) := by decide +kernel
theorem dX9_ward_44 : decode cX9_ward 44 = .ok (.iload_n 3, 1) := by decide +kernel
theorem dX9_ward_45 : decode cX9_ward 45 = .ok (.iconst 2, 1) := by decide +kernel
theorem dX9_ward_46 : decode cX9_ward 46 = .ok (.if_icmp .ne 12, 3) := by decide +kernel
theorem dX9_ward_49 : decode cX9_ward 49 = .ok (.aload_n 0, 1) := by decide +kernel
theorem dX9_ward_50 : decode cX9_ward 50 = .ok (.getfield 50, 3) := by decide +kernel
theorem dX9_ward_53 : decode cX9_ward 53 = .ok (.iload_n 2, 1) := by decide +kernel
theorem dX9_ward_54 : decode cX9_ward 54 = .ok (.iaload, 1) := by decide +kernel
theorem dX9_ward_55 : decode cX9_ward 55 = .ok (.goto 9, 3) := by decide +kernel
theorem dX9_ward_58 : decode cX9_ward 58 = .ok (.aload_n 0, 1) := by decide +kernel
theorem dX9_ward_59 : decode cX9_ward 59 = .ok (.getfield 53, 3) := by decide +kernel
theorem dX9_ward_62 : decode cX9_ward 62 = .ok (.iload_n 2, 1) := by decide +kernel
theorem dX9_ward_63 : decode cX9_ward 63 = .ok (.iaload, 1) := by decide +kernel
theorem dX9_ward_64 : decode cX9_ward 64 = .ok (.ireturn, 1) := by decide +kernel
theorem dX9_ward_65 : decode cX9_ward 65 = .ok (.iconst 0, 1) := by decide +kernel
theorem dX9_ward_66 : decode cX9_ward 66 = .ok (.istore 4, 2) := by decide +kernel
theorem dX9_ward_68 : decode cX9_ward 68 = .ok (.iconst 0, 1) := by decide +kernel
theorem dX9_ward_69 : decode cX9_ward 69 = .ok (.istore 5, 2) := by decide +kernel
theorem dX9_ward_71 : decode cX9_ward 71 = .ok (.iload 5, 2) := by decide +kernel
theorem dX9_ward_73 : decode cX9_ward 73 = .ok (.aload_n 0, 1) := by decide +kernel
theorem dX9_ward_74 : decode cX9_ward 74 = .ok (.getfield 66, 3) := by decide +kernel
theorem dX9_ward_77 : decode cX9_ward 77 = .ok (.if_icmp .ge 102, 3) := by decide +kernel
theorem dX9_ward_80 : decode cX9_ward 80 = .ok (.iload_n 1, 1) := by decide +kernel
theorem dX9_ward_81 : decode cX9_ward 81 = .ok (.ifCond .lt 14, 3) := by decide +kernel
theorem dX9_ward_84 : decode cX9_ward 84 = .ok (.aload_n 0, 1) := by decide +kernel
theorem dX9_ward_85 : decode cX9_ward 85 = .ok (.getfield 7, 3) := by decide +kernel
theorem dX9_ward_88 : decode cX9_ward 88 = .ok (.iload 5, 2) := by decide +kernel
theorem dX9_ward_90 : decode cX9_ward 90 = .ok (.iaload, 1) := by decide +kernel
theorem dX9_ward_91 : decode cX9_ward 91 = .ok (.iload_n 1, 1) := by decide +kernel
theorem dX9_ward_92 : decode cX9_ward 92 = .ok (.if_icmp .ne 7, 3) := by decide +kernel
theorem dX9_ward_95 : decode cX9_ward 95 = .ok (.iconst 1, 1) := by decide +kernel
theorem dX9_ward_96 : decode cX9_ward 96 = .ok (.goto 4, 3) := by decide +kernel
theorem dX9_ward_99 : decode cX9_ward 99 = .ok (.iconst 0, 1) := by decide +kernel
theorem dX9_ward_100 : decode cX9_ward 100 = .ok (.istore 6, 2) := by decide +kernel
theorem dX9_ward_102 : decode cX9_ward 102 = .ok (.iload_n 3, 1) := by decide +kernel
theorem dX9_ward_103 : decode cX9_ward 103 = .ok (.iconst 1, 1) := by decide +kernel
theorem dX9_ward_104 : decode cX9_ward 104 = .ok (.if_icmp .ne 18, 3) := by decide +kernel
theorem dX9_ward_107 : decode cX9_ward 107 = .ok (.aload_n 0, 1) := by decide +kernel
theorem dX9_ward_108 : decode cX9_ward 108 = .ok (.getfield 59, 3) := by decide +kernel
theorem dX9_ward_111 : decode cX9_ward 111 = .ok (.bipush 10, 2) := by decide +kernel
theorem dX9_ward_113 : decode cX9_ward 113 = .ok (.iload 5, 2) := by decide +kernel
theorem dX9_ward_115 : decode cX9_ward 115 = .ok (.imul, 1) := by decide +kernel
theorem dX9_ward_116 : decode cX9_ward 116 = .ok (.iload_n 2, 1) := by decide +kernel
theorem dX9_ward_117 : decode cX9_ward 117 = .ok (.iadd, 1) := by decide +kernel
theorem dX9_ward_118 : decode cX9_ward 118 = .ok (.iaload, 1) := by decide +kernel
theorem dX9_ward_119 : decode cX9_ward 119 = .ok (.goto 36, 3) := by decide +kernel
theorem dX9_ward_122 : decode cX9_ward 122 = .ok (.aload_n 0, 1) := by decide +kernel
theorem dX9_ward_123 : decode cX9_ward 123 = .ok (.getfield 56, 3) := by decide +kernel
theorem dX9_ward_126 : decode cX9_ward 126 = .ok (.bipush 10, 2) := by decide +kernel
theorem dX9_ward_128 : decode cX9_ward 128 = .ok (.iload 5, 2) := by decide +kernel
theorem dX9_ward_130 : decode cX9_ward 130 = .ok (.imul, 1) := by decide +kernel
theorem dX9_ward_131 : decode cX9_ward 131 = .ok (.iload_n 2, 1) := by decide +kernel
theorem dX9_ward_132 : decode cX9_ward 132 = .ok (.iadd, 1) := by decide +kernel
theorem dX9_ward_133 : decode cX9_ward 133 = .ok (.iaload, 1) := by decide +kernel
theorem dX9_ward_134 : decode cX9_ward 134 = .ok (.bipush (-4), 2) := by decide +kernel
theorem dX9_ward_136 : decode cX9_ward 136 = .ok (.if_icmp .ne 7, 3) := by decide +kernel
theorem dX9_ward_139 : decode cX9_ward 139 = .ok (.iconst 0, 1) := by decide +kernel
theorem dX9_ward_140 : decode cX9_ward 140 = .ok (.goto 15, 3) := by decide +kernel
theorem dX9_ward_143 : decode cX9_ward 143 = .ok (.aload_n 0, 1) := by decide +kernel
theorem dX9_ward_144 : decode cX9_ward 144 = .ok (.getfield 56, 3) := by decide +kernel
theorem dX9_ward_147 : decode cX9_ward 147 = .ok (.bipush 10, 2) := by decide +kernel
theorem dX9_ward_149 : decode cX9_ward 149 = .ok (.iload 5, 2) := by decide +kernel
theorem dX9_ward_151 : decode cX9_ward 151 = .ok (.imul, 1) := by decide +kernel
theorem dX9_ward_152 : decode cX9_ward 152 = .ok (.iload_n 2, 1) := by decide +kernel
theorem dX9_ward_153 : decode cX9_ward 153 = .ok (.iadd, 1) := by decide +kernel
theorem dX9_ward_154 : decode cX9_ward 154 = .ok (.iaload, 1) := by decide +kernel
theorem dX9_ward_155 : decode cX9_ward 155 = .ok (.istore 7, 2) := by decide +kernel
theorem dX9_ward_157 : decode cX9_ward 157 = .ok (.iload 4, 2) := by decide +kernel
theorem dX9_ward_159 : decode cX9_ward 159 = .ok (.iload 6, 2) := by decide +kernel
theorem dX9_ward_161 : decode cX9_ward 161 = .ok (.ifCond .eq 8, 3) := by decide +kernel
theorem dX9_ward_164 : decode cX9_ward 164 = .ok (.iload 7, 2) := by decide +kernel
theorem dX9_ward_166 : decode cX9_ward 166 = .ok (.goto 4, 3) := by decide +kernel
theorem dX9_ward_169 : decode cX9_ward 169 = .ok (.iconst 0, 1) := by decide +kernel
theorem dX9_ward_170 : decode cX9_ward 170 = .ok (.iadd, 1) := by decide +kernel
theorem dX9_ward_171 : decode cX9_ward 171 = .ok (.istore 4, 2) := by decide +kernel
theorem dX9_ward_173 : decode cX9_ward 173 = .ok (.iinc 5 1, 3) := by decide +kernel
theorem dX9_ward_176 : decode cX9_ward 176 = .ok (.goto (-105), 3) := by decide +kernel
theorem dX9_ward_179 : decode cX9_ward 179 = .ok (.iload 4, 2) := by decide +kernel
theorem dX9_ward_181 : decode cX9_ward 181 = .ok (.ireturn, 1) := by decide +kernel
theorem dX9_count_0 : decode cX9_count 0 = .ok (.iconst 0, 1) := by decide +kernel
theorem dX9_count_1 : decode cX9_count 1 = .ok (.istore_n 2, 1) := by decide +kernel
theorem dX9_count_2 : decode cX9_count 2 = .ok (.iconst 0, 1) := by decide +kernel
theorem dX9_count_3 : decode cX9_count 3 = .ok (.istore_n 3, 1) := by decide +kernel
theorem dX9_count_4 : decode cX9_count 4 = .ok (.iconst 0, 1) := by decide +kernel
theorem dX9_count_5 : decode cX9_count 5 = .ok (.istore 4, 2) := by decide +kernel
theorem dX9_count_7 : decode cX9_count 7 = .ok (.iconst 0, 1) := by decide +kernel
theorem dX9_count_8 : decode cX9_count 8 = .ok (.istore 5, 2) := by decide +kernel
theorem dX9_count_10 : decode cX9_count 10 = .ok (.iload 5, 2) := by decide +kernel
theorem dX9_count_12 : decode cX9_count 12 = .ok (.aload_n 0, 1) := by decide +kernel
theorem dX9_count_13 : decode cX9_count 13 = .ok (.getfield 66, 3) := by decide +kernel
theorem dX9_count_16 : decode cX9_count 16 = .ok (.if_icmp .ge 37, 3) := by decide +kernel
theorem dX9_count_19 : decode cX9_count 19 = .ok (.iload_n 2, 1) := by decide +kernel
theorem dX9_count_20 : decode cX9_count 20 = .ok (.aload_n 0, 1) := by decide +kernel
theorem dX9_count_21 : decode cX9_count 21 = .ok (.getfield 25, 3) := by decide +kernel
theorem dX9_count_24 : decode cX9_count 24 = .ok (.iload 5, 2) := by decide +kernel
theorem dX9_count_26 : decode cX9_count 26 = .ok (.iaload, 1) := by decide +kernel
theorem dX9_count_27 : decode cX9_count 27 = .ok (.iadd, 1) := by decide +kernel
theorem dX9_count_28 : decode cX9_count 28 = .ok (.istore_n 2, 1) := by decide +kernel
theorem dX9_count_29 : decode cX9_count 29 = .ok (.iload_n 3, 1) := by decide +kernel
theorem dX9_count_30 : decode cX9_count 30 = .ok (.aload_n 0, 1) := by decide +kernel
theorem dX9_count_31 : decode cX9_count 31 = .ok (.getfield 22, 3) := by decide +kernel
theorem dX9_count_34 : decode cX9_count 34 = .ok (.iload 5, 2) := by decide +kernel
theorem dX9_count_36 : decode cX9_count 36 = .ok (.iaload, 1) := by decide +kernel
theorem dX9_count_37 : decode cX9_count 37 = .ok (.ifCond .le 7, 3) := by decide +kernel
theorem dX9_count_40 : decode cX9_count 40 = .ok (.iconst 1, 1) := by decide +kernel
theorem dX9_count_41 : decode cX9_count 41 = .ok (.goto 4, 3) := by decide +kernel
theorem dX9_count_44 : decode cX9_count 44 = .ok (.iconst 0, 1) := by decide +kernel
theorem dX9_count_45 : decode cX9_count 45 = .ok (.iadd, 1) := by decide +kernel
theorem dX9_count_46 : decode cX9_count 46 = .ok (.istore_n 3, 1) := by decide +kernel
theorem dX9_count_47 : decode cX9_count 47 = .ok (.iinc 5 1, 3) := by decide +kernel
theorem dX9_count_50 : decode cX9_count 50 = .ok (.goto (-40), 3) := by decide +kernel
theorem dX9_count_53 : decode cX9_count 53 = .ok (.iconst 0, 1) := by decide +kernel
theorem dX9_count_54 : decode cX9_count 54 = .ok (.istore 5, 2) := by decide +kernel
theorem dX9_count_56 : decode cX9_count 56 = .ok (.iload 5, 2) := by decide +kernel
theorem dX9_count_58 : decode cX9_count 58 = .ok (.bipush 10, 2) := by decide +kernel
theorem dX9_count_60 : decode cX9_count 60 = .ok (.if_icmp .ge 29, 3) := by decide +kernel
theorem dX9_count_63 : decode cX9_count 63 = .ok (.iload 4, 2) := by decide +kernel
theorem dX9_count_65 : decode cX9_count 65 = .ok (.aload_n 0, 1) := by decide +kernel
theorem dX9_count_66 : decode cX9_count 66 = .ok (.getfield 46, 3) := by decide +kernel
theorem dX9_count_69 : decode cX9_count 69 = .ok (.iload 5, 2) := by decide +kernel
theorem dX9_count_71 : decode cX9_count 71 = .ok (.baload, 1) := by decide +kernel
theorem dX9_count_72 : decode cX9_count 72 = .ok (.ifCond .eq 7, 3) := by decide +kernel
theorem dX9_count_75 : decode cX9_count 75 = .ok (.iconst 1, 1) := by decide +kernel
theorem dX9_count_76 : decode cX9_count 76 = .ok (.goto 4, 3) := by decide +kernel
theorem dX9_count_79 : decode cX9_count 79 = .ok (.iconst 0, 1) := by decide +kernel
theorem dX9_count_80 : decode cX9_count 80 = .ok (.iadd, 1) := by decide +kernel
theorem dX9_count_81 : decode cX9_count 81 = .ok (.istore 4, 2) := by decide +kernel
theorem dX9_count_83 : decode cX9_count 83 = .ok (.iinc 5 1, 3) := by decide +kernel
theorem dX9_count_86 : decode cX9_count 86 = .ok (.goto (-30), 3) := by decide +kernel
theorem dX9_count_89 : decode cX9_count 89 = .ok (.iload_n 1, 1) := by decide +kernel
theorem dX9_count_90 : decode cX9_count 90 = .ok (.tableswitch 51 0 4 #[34, 39, 44, 46, 49], 34) := by decide +kernel
theorem dX9_count_124 : decode cX9_count 124 = .ok (.aload_n 0, 1) := by decide +kernel
theorem dX9_count_125 : decode cX9_count 125 = .ok (.getfield 66, 3) := by decide +kernel
theorem dX9_count_128 : decode cX9_count 128 = .ok (.ireturn, 1) := by decide +kernel
theorem dX9_count_129 : decode cX9_count 129 = .ok (.aload_n 0, 1) := by decide +kernel
theorem dX9_count_130 : decode cX9_count 130 = .ok (.getfield 103, 3) := by decide +kernel
theorem dX9_count_133 : decode cX9_count 133 = .ok (.ireturn, 1) := by decide +kernel
theorem dX9_count_134 : decode cX9_count 134 = .ok (.iload_n 2, 1) := by decide +kernel
theorem dX9_count_135 : decode cX9_count 135 = .ok (.ireturn, 1) := by decide +kernel
theorem dX9_count_136 : decode cX9_count 136 = .ok (.iload 4, 2) := by decide +kernel
theorem dX9_count_138 : decode cX9_count 138 = .ok (.ireturn, 1) := by decide +kernel
theorem dX9_count_139 : decode cX9_count 139 = .ok (.iload_n 3, 1) := by decide +kernel
theorem dX9_count_140 : decode cX9_count 140 = .ok (.ireturn, 1) := by decide +kernel
theorem dX9_count_141 : decode cX9_count 141 = .ok (.iconst (-1), 1) := by decide +kernel
theorem dX9_count_142 : decode cX9_count 142 = .ok (.ireturn, 1) := by decide +kernel
end
section
/-! numbers: an int, a long by its integer -/
def J (z : Int) : Int32 := Int32.ofInt z
def JL (z : Int) : Int64 := Int64.ofInt z
/-- a proposition as an int -/
def pI (c : Prop) [Decidable c] : Int := if c then 1 else 0
theorem J_add (a b : Int) : J a + J b = J (a + b) := (Int32.ofInt_add a b).symm
theorem J_sub (a b : Int) : J a - J b = J (a - b) := (Int32.ofInt_sub a b).symm
theorem J_mul (a b : Int) : J a * J b = J (a * b) := (Int32.ofInt_mul a b).symm
theorem J_neg (a : Int) : -J a = J (-a) := (Int32.ofInt_neg a).symm
theorem JL_add (a b : Int) : JL a + JL b = JL (a + b) := (Int64.ofInt_add a b).symm
theorem JL_mul (a b : Int) : JL a * JL b = JL (a * b) := (Int64.ofInt_mul a b).symm
theorem J_toInt {z : Int} (h1 : -2147483648 ≤ z) (h2 : z < 2147483648) : (J z).toInt = z := Int32.toInt_ofInt_of_le (by omega) (by omega)
theorem JL_toInt {z : Int} (h1 : -9223372036854775808 ≤ z) (h2 : z < 9223372036854775808) : (JL z).toInt = z := Int64.toInt_ofInt_of_le (by omega) (by omega)
theorem J_of (x : Int32) : J x.toInt = x := Int32.ofInt_toInt x
theorem J_rng (x : Int32) : -2147483648 ≤ x.toInt ∧ x.toInt < 2147483648 := ⟨by have := x.le_toInt; omega, by have := x.toInt_lt; omega⟩
theorem J_lt {a b : Int} (h1 : -2147483648 ≤ a) (h2 : a < 2147483648) (h3 : -2147483648 ≤ b) (h4 : b < 2147483648) : J a < J b ↔ a < b := by rw [Int32.lt_iff_toInt_lt, J_toInt h1 h2, J_toInt h3 h4]
theorem J_le {a b : Int} (h1 : -2147483648 ≤ a) (h2 : a < 2147483648) (h3 : -2147483648 ≤ b) (h4 : b < 2147483648) : J a ≤ J b ↔ a ≤ b := by rw [Int32.le_iff_toInt_le, J_toInt h1 h2, J_toInt h3 h4]
theorem J_eq {a b : Int} (h1 : -2147483648 ≤ a) (h2 : a < 2147483648) (h3 : -2147483648 ≤ b) (h4 : b < 2147483648) : J a = J b ↔ a = b := ⟨fun h => by have := congrArg Int32.toInt h; rwa [J_toInt h1 h2, J_toInt h3 h4] at this, fun h => by rw [h]⟩
theorem JL_eq {a b : Int} (h1 : -9223372036854775808 ≤ a) (h2 : a < 9223372036854775808) (h3 : -9223372036854775808 ≤ b) (h4 : b < 9223372036854775808) : JL a = JL b ↔ a = b := ⟨fun h => by have := congrArg Int64.toInt h; rwa [JL_toInt h1 h2, JL_toInt h3 h4] at this, fun h => by rw [h]⟩
theorem JL_lt {a b : Int} (h1 : -9223372036854775808 ≤ a) (h2 : a < 9223372036854775808) (h3 : -9223372036854775808 ≤ b) (h4 : b < 9223372036854775808) : JL a < JL b ↔ a < b := by rw [Int64.lt_iff_toInt_lt, JL_toInt h1 h2, JL_toInt h3 h4]
theorem J_nat (n : Nat) : J (n : Int) = nI n := Int32.ofInt_eq_ofNat
theorem J_in {z : Int} {n : Nat} (h0 : 0 ≤ z) (h1 : z < n) (hn : n < 2147483648) : vp_in (J z) n := vp_in_iff.mpr (by rw [J_toInt (by omega) (by omega)]; exact ⟨h0, h1⟩)
theorem J_clamp {z : Int} (h0 : 0 ≤ z) (h1 : z < 2147483648) : (((J z).toNatClampNeg : Nat) : Int) = z := by
  rw [show J z = Int32.ofInt z from rfl, Int32.toNatClampNeg_ofInt_of_le (by omega) (by omega), Int.toNat_of_nonneg h0]
theorem J_div {a b : Int} (h1 : -2147483648 ≤ a) (h2 : a < 2147483648) (h3 : -2147483648 ≤ b) (h4 : b < 2147483648) : J a / J b = J (a.tdiv b) :=
  (Int32.ofInt_tdiv (by rw [Int32.toInt_minValue]; omega) (by rw [Int32.toInt_maxValue]; omega) (by rw [Int32.toInt_minValue]; omega) (by rw [Int32.toInt_maxValue]; omega)).symm
theorem J_divN {a b : Int} (h1 : 0 ≤ a) (h2 : a < 2147483648) (h3 : 0 < b) (h4 : b < 2147483648) : J a / J b = J (a / b) := by
  rw [J_div (by omega) h2 (by omega) h4, Int.tdiv_eq_ediv_of_nonneg h1]
theorem J_remN {a b : Int} (h1 : 0 ≤ a) (h2 : a < 2147483648) (h3 : 0 < b) (h4 : b < 2147483648) : J a - J a / J b * J b = J (a % b) := by
  rw [J_divN h1 h2 h3 h4, J_mul, J_sub]; congr 1; rw [Int.emod_def, Int.mul_comm]
theorem JL_divN {a b : Int} (h1 : 0 ≤ a) (h2 : a < 9223372036854775808) (h3 : 0 < b) (h4 : b < 9223372036854775808) : JL a / JL b = JL (a / b) := by
  rw [← Int.tdiv_eq_ediv_of_nonneg h1]
  exact (Int64.ofInt_tdiv (by rw [Int64.toInt_minValue]; omega) (by rw [Int64.toInt_maxValue]; omega) (by rw [Int64.toInt_minValue]; omega) (by rw [Int64.toInt_maxValue]; omega)).symm
theorem J_i2l {a : Int} (h1 : -2147483648 ≤ a) (h2 : a < 2147483648) : (J a).toInt64 = JL a := Int32.toInt64_ofInt (by rw [Int32.toInt_minValue]; omega) (by rw [Int32.toInt_maxValue]; omega)
theorem J_l2i (a : Int) : (JL a).toInt32 = J a := Int64.toInt32_ofInt
def cmp3 (a b : Int) : Int := if b < a then 1 else if a = b then 0 else -1
theorem J_cmp {a b : Int} (h1 : -9223372036854775808 ≤ a) (h2 : a < 9223372036854775808) (h3 : -9223372036854775808 ≤ b) (h4 : b < 9223372036854775808) : lg_cmp (JL a) (JL b) = J (cmp3 a b) := by
  unfold lg_cmp cmp3
  by_cases q : b < a
  · rw [if_pos (show JL a > JL b from (JL_lt h3 h4 h1 h2).mpr q), if_pos q]; rfl
  · rw [if_neg (show ¬ JL a > JL b from fun z => q ((JL_lt h3 h4 h1 h2).mp z)), if_neg q]
    by_cases q2 : a = b
    · rw [if_pos ((JL_eq h1 h2 h3 h4).mpr q2), if_pos q2]; rfl
    · rw [if_neg (fun z => q2 ((JL_eq h1 h2 h3 h4).mp z)), if_neg q2]; rfl
theorem cmp3_lt {a b : Int} : cmp3 a b < 0 ↔ a < b := by unfold cmp3; (repeat' split) <;> omega
theorem cmp3_eq {a b : Int} : cmp3 a b = 0 ↔ a = b := by unfold cmp3; (repeat' split) <;> omega
theorem cmp3_rng (a b : Int) : -1 ≤ cmp3 a b ∧ cmp3 a b ≤ 1 := by unfold cmp3; (repeat' split) <;> omega
theorem pI_rng (c : Prop) [Decidable c] : 0 ≤ pI c ∧ pI c ≤ 1 := by unfold pI; split <;> omega
theorem pI_t {c : Prop} [Decidable c] (h : c) : pI c = 1 := if_pos h
theorem pI_f {c : Prop} [Decidable c] (h : ¬ c) : pI c = 0 := if_neg h
theorem pI_eq {c d : Prop} [Decidable c] [Decidable d] (h : c ↔ d) : pI c = pI d := by unfold pI; by_cases q : c <;> simp [q, h.symm]
/-- a function of integers, at one place another -/
def uf {α : Type} (f : Int → α) (k : Int) (x : α) : Int → α := fun j => if j = k then x else f j
theorem uf_s {α : Type} (f : Int → α) (k : Int) (x : α) : uf f k x k = x := if_pos rfl
theorem uf_n {α : Type} (f : Int → α) {k j : Int} (x : α) (h : j ≠ k) : uf f k x j = f j := if_neg h
/-! the machine's tables, as every method of ours may take them -/
abbrev GG : Type := va_G × (Nat → ClassId)
def tysG (q : Nat → ClassId) : List (ClassId × FieldType) := [(q 0, .int), (q 1, .long), (q 2, .boolean), (q 3, .object RX0), (q 4, .object RX2), (q 5, .object RX4), (q 6, .object RX6), (q 7, .object RX7)]
def NW (U : State) : Prop := va_Nw (.fieldLinkNest RX8 115 "RateBook$Events" "told" "I" "RateBook") U ∧ va_Nw (.fieldLinkNest RX8 180 "RateBook$Town" "size" "I" "RateBook") U ∧ va_Nw (.fieldLinkNest RX8 211 "RateBook$Lists" "made" "I" "RateBook") U ∧ va_Nw (.fieldLinkNest RX5 35 "RateBook$Events" "told" "I" "RateBook") U ∧ va_Nw (.methodLinkNest RX1 38 yX8_sooner "RateBook") U ∧ va_Nw (.methodLinkNest RX3 31 yX8_sooner "RateBook") U
def AO5 (U : State) : Prop := va_AO RX0 U ∧ va_AO RX2 U ∧ va_AO RX4 U ∧ va_AO RX6 U ∧ va_AO RX7 U
def KK (G : GG) (U : State) : Prop := va_K G.1 vwCl (tysG G.2) U ∧ NW U ∧ AO5 U
theorem KK.w {G : GG} {s U : State} (hW : s.WarmedH U.vm) (h : KK G s) : KK G U :=
  ⟨va_K.moved hW.alike h.1, ⟨va_Nw.warmF hW h.2.1.1, va_Nw.warmF hW h.2.1.2.1, va_Nw.warmF hW h.2.1.2.2.1, va_Nw.warmF hW h.2.1.2.2.2.1, va_Nw.warmM hW h.2.1.2.2.2.2.1, va_Nw.warmM hW h.2.1.2.2.2.2.2⟩,
    ⟨va_AO.moved hW.alike h.2.2.1, va_AO.moved hW.alike h.2.2.2.1, va_AO.moved hW.alike h.2.2.2.2.1, va_AO.moved hW.alike h.2.2.2.2.2.1, va_AO.moved hW.alike h.2.2.2.2.2.2⟩⟩
theorem KK.c {G : GG} {U : State} (g : JFrame) (mk : MethodId) (a : Array Value) (h : KK G U) : KK G (U.calling g mk a) :=
  ⟨va_K.moved (u := U) (U := U.calling g mk a) (Vm.Alike.refl U.vm) h.1, ⟨va_Nw.same rfl rfl h.2.1.1, va_Nw.same rfl rfl h.2.1.2.1, va_Nw.same rfl rfl h.2.1.2.2.1, va_Nw.same rfl rfl h.2.1.2.2.2.1, va_Nw.same rfl rfl h.2.1.2.2.2.2.1, va_Nw.same rfl rfl h.2.1.2.2.2.2.2⟩,
    ⟨va_AO.moved (u := U) (U := U.calling g mk a) (Vm.Alike.refl U.vm) h.2.2.1, va_AO.moved (u := U) (U := U.calling g mk a) (Vm.Alike.refl U.vm) h.2.2.2.1, va_AO.moved (u := U) (U := U.calling g mk a) (Vm.Alike.refl U.vm) h.2.2.2.2.1, va_AO.moved (u := U) (U := U.calling g mk a) (Vm.Alike.refl U.vm) h.2.2.2.2.2.1, va_AO.moved (u := U) (U := U.calling g mk a) (Vm.Alike.refl U.vm) h.2.2.2.2.2.2⟩⟩
/-! cells -/
def At (G : GG) (H : Heap) (a : Nat) (e : va_E) : Prop := va_at G.1 vwCl (a, e) H
def eI (G : GG) (n : Nat) (f : Int → Int) : va_E := .inl (G.2 0, n, .inl (fun j => J (f j)))
def eZ (G : GG) (n : Nat) (f : Int → Int) : va_E := .inl (G.2 2, n, .inl (fun j => J (f j)))
def eL (G : GG) (n : Nat) (f : Int → Int) : va_E := .inl (G.2 1, n, .inr (.inl (fun j => JL (f j))))
def eQ (G : GG) (k : Nat) (n : Nat) (f : Int → Option Nat) : va_E := .inl (G.2 k, n, .inr (.inr (.inr (.inr (fun j => f j)))))
def eO (ci : Nat) (fs : List Value) : va_E := .inr (ci, fs)
theorem At.kept {G : GG} {H H1 : Heap} {a : Nat} {e : va_E} (h : At G H a e) (q : H1[a]? = H[a]?) : At G H1 a e := va_at.kept h q
theorem At.lt {G : GG} {H : Heap} {a : Nat} {e : va_E} (h : At G H a e) : a < H.size := va_at.lt h
theorem At.P {G : GG} {H : Heap} {a : Nat} {e : va_E} (h : At G H a e) : va_P G.1 vwCl [(a, e)] H := fun k q hk => by
  cases k with
  | zero => cases hk; exact h
  | succ k => simp at hk
/-- a heap that is the same, but at one address -/
def Hx (H H1 : Heap) (a : Nat) : Prop := H1.size = H.size ∧ ∀ q : Nat, q ≠ a → H1[q]? = H[q]?
/-- a heap with one cell more -/
def Hn (H H1 : Heap) (a : Nat) : Prop := a = H.size ∧ H1.size = H.size + 1 ∧ ∀ q : Nat, q < H.size → H1[q]? = H[q]?
theorem At.x {G : GG} {H H1 : Heap} {a b : Nat} {e : va_E} (h : At G H b e) (x : Hx H H1 a) (q : b ≠ a) : At G H1 b e := h.kept (x.2 b q)
theorem At.n {G : GG} {H H1 : Heap} {a b : Nat} {e : va_E} (h : At G H b e) (x : Hn H H1 a) : At G H1 b e := h.kept (x.2.2 b h.lt)
end
section
section JROWS
variable {p : Program} {l : Launch} {e : Env} {R : Room} {s : State} {m : MethodId} {args : Array Value} {below : List Frame} {meth : Method} {c : Code} {H : Heap} {locs : List Loc} {cells slots : Nat} {Q : State → Prop}
variable {cc : ByteArray} {pc : Nat} {ls : Array Slot} {rest : List Value} {G : GG} {A : Nat → Prop} {a : Nat}
/-! constants, arithmetic -/
theorem j_const (hx : p.tables.exec = Jvm.exec) (hb : c.code = cc) {n : Int} (hdg : decode cc pc = .ok (.iconst n, 1)) (k : W p l e R s m args below meth c H locs cells slots Q (F0 m (pc + 1) ls (.int (J n) :: rest))) : W p l e R s m args below meth c H locs cells slots Q (F0 m pc ls rest) := lv_iconst hx hb hdg rfl k
theorem j_bi (hx : p.tables.exec = Jvm.exec) (hb : c.code = cc) {n : Int} (hdg : decode cc pc = .ok (.bipush n, 2)) (hv : (Int8.ofInt n).toInt32 = J n) (k : W p l e R s m args below meth c H locs cells slots Q (F0 m (pc + 2) ls (.int (J n) :: rest))) : W p l e R s m args below meth c H locs cells slots Q (F0 m pc ls rest) := lv_bipush hx hb hdg hv k
theorem j_si (hx : p.tables.exec = Jvm.exec) (hb : c.code = cc) {n : Int} (hdg : decode cc pc = .ok (.sipush n, 3)) (hv : (Int16.ofInt n).toInt32 = J n) (k : W p l e R s m args below meth c H locs cells slots Q (F0 m (pc + 3) ls (.int (J n) :: rest))) : W p l e R s m args below meth c H locs cells slots Q (F0 m pc ls rest) := lv_sipush hx hb hdg hv k
theorem j_add (hx : p.tables.exec = Jvm.exec) (hb : c.code = cc) {x y : Int} (hdg : decode cc pc = .ok (.iadd, 1)) (k : W p l e R s m args below meth c H locs cells slots Q (F0 m (pc + 1) ls (.int (J (x + y)) :: rest))) : W p l e R s m args below meth c H locs cells slots Q (F0 m pc ls (.int (J y) :: .int (J x) :: rest)) := lv_iadd hx hb hdg (by rw [J_add]; exact k)
theorem j_sub (hx : p.tables.exec = Jvm.exec) (hb : c.code = cc) {x y : Int} (hdg : decode cc pc = .ok (.isub, 1)) (k : W p l e R s m args below meth c H locs cells slots Q (F0 m (pc + 1) ls (.int (J (x - y)) :: rest))) : W p l e R s m args below meth c H locs cells slots Q (F0 m pc ls (.int (J y) :: .int (J x) :: rest)) := lv_isub hx hb hdg (by rw [J_sub]; exact k)
theorem j_mul (hx : p.tables.exec = Jvm.exec) (hb : c.code = cc) {x y : Int} (hdg : decode cc pc = .ok (.imul, 1)) (k : W p l e R s m args below meth c H locs cells slots Q (F0 m (pc + 1) ls (.int (J (x * y)) :: rest))) : W p l e R s m args below meth c H locs cells slots Q (F0 m pc ls (.int (J y) :: .int (J x) :: rest)) := lv_imul hx hb hdg (by rw [J_mul]; exact k)
theorem j_neg (hx : p.tables.exec = Jvm.exec) (hb : c.code = cc) {x : Int} (hdg : decode cc pc = .ok (.ineg, 1)) (k : W p l e R s m args below meth c H locs cells slots Q (F0 m (pc + 1) ls (.int (J (-x)) :: rest))) : W p l e R s m args below meth c H locs cells slots Q (F0 m pc ls (.int (J x) :: rest)) := lv_ineg hx hb hdg (by rw [J_neg]; exact k)
theorem j_div (hx : p.tables.exec = Jvm.exec) (hb : c.code = cc) {x y : Int} (h1 : 0 ≤ x) (h2 : x < 2147483648) (h3 : 0 < y) (h4 : y < 2147483648) (hdg : decode cc pc = .ok (.idiv, 1)) (k : W p l e R s m args below meth c H locs cells slots Q (F0 m (pc + 1) ls (.int (J (x / y)) :: rest))) : W p l e R s m args below meth c H locs cells slots Q (F0 m pc ls (.int (J y) :: .int (J x) :: rest)) :=
  lv_idiv hx hb hdg (fun q => by rw [show (0 : Int32) = J 0 from rfl, J_eq (by omega) h4 (by omega) (by omega)] at q; omega) (by rw [J_divN h1 h2 h3 h4]; exact k)
theorem j_tdiv (hx : p.tables.exec = Jvm.exec) (hb : c.code = cc) {x y : Int} (h1 : -2147483648 ≤ x) (h2 : x < 2147483648) (h3 : 0 < y) (h4 : y < 2147483648) (hdg : decode cc pc = .ok (.idiv, 1)) (k : W p l e R s m args below meth c H locs cells slots Q (F0 m (pc + 1) ls (.int (J (x.tdiv y)) :: rest))) : W p l e R s m args below meth c H locs cells slots Q (F0 m pc ls (.int (J y) :: .int (J x) :: rest)) :=
  lv_idiv hx hb hdg (fun q => by rw [show (0 : Int32) = J 0 from rfl, J_eq (by omega) h4 (by omega) (by omega)] at q; omega) (by rw [J_div h1 h2 (by omega) h4]; exact k)
theorem j_rem (hx : p.tables.exec = Jvm.exec) (hb : c.code = cc) {x y : Int} (h1 : 0 ≤ x) (h2 : x < 2147483648) (h3 : 0 < y) (h4 : y < 2147483648) (hdg : decode cc pc = .ok (.irem, 1)) (k : W p l e R s m args below meth c H locs cells slots Q (F0 m (pc + 1) ls (.int (J (x % y)) :: rest))) : W p l e R s m args below meth c H locs cells slots Q (F0 m pc ls (.int (J y) :: .int (J x) :: rest)) :=
  lv_irem hx hb hdg (fun q => by rw [show (0 : Int32) = J 0 from rfl, J_eq (by omega) h4 (by omega) (by omega)] at q; omega) (by rw [J_remN h1 h2 h3 h4]; exact k)
theorem j_i2l (hx : p.tables.exec = Jvm.exec) (hb : c.code = cc) {x : Int} (h1 : -2147483648 ≤ x) (h2 : x < 2147483648) (hdg : decode cc pc = .ok (.i2l, 1)) (k : W p l e R s m args below meth c H locs cells slots Q (F0 m (pc + 1) ls (.long (JL x) :: rest))) : W p l e R s m args below meth c H locs cells slots Q (F0 m pc ls (.int (J x) :: rest)) := lv_i2l hx hb hdg (J_i2l h1 h2) k
theorem j_l2i (hx : p.tables.exec = Jvm.exec) (hb : c.code = cc) {x : Int} (hdg : decode cc pc = .ok (.l2i, 1)) (k : W p l e R s m args below meth c H locs cells slots Q (F0 m (pc + 1) ls (.int (J x) :: rest))) : W p l e R s m args below meth c H locs cells slots Q (F0 m pc ls (.long (JL x) :: rest)) := lv_l2i hx hb hdg (J_l2i x) k
theorem j_ladd (hx : p.tables.exec = Jvm.exec) (hb : c.code = cc) {x y : Int} (hdg : decode cc pc = .ok (.ladd, 1)) (k : W p l e R s m args below meth c H locs cells slots Q (F0 m (pc + 1) ls (.long (JL (x + y)) :: rest))) : W p l e R s m args below meth c H locs cells slots Q (F0 m pc ls (.long (JL y) :: .long (JL x) :: rest)) := lv_ladd hx hb hdg (by rw [JL_add]; exact k)
theorem j_lmul (hx : p.tables.exec = Jvm.exec) (hb : c.code = cc) {x y : Int} (hdg : decode cc pc = .ok (.lmul, 1)) (k : W p l e R s m args below meth c H locs cells slots Q (F0 m (pc + 1) ls (.long (JL (x * y)) :: rest))) : W p l e R s m args below meth c H locs cells slots Q (F0 m pc ls (.long (JL y) :: .long (JL x) :: rest)) := lv_lmul hx hb hdg (by rw [JL_mul]; exact k)
theorem j_ldiv (hx : p.tables.exec = Jvm.exec) (hb : c.code = cc) {x y : Int} (h1 : 0 ≤ x) (h2 : x < 9223372036854775808) (h3 : 0 < y) (h4 : y < 9223372036854775808) (hdg : decode cc pc = .ok (.ldiv, 1)) (k : W p l e R s m args below meth c H locs cells slots Q (F0 m (pc + 1) ls (.long (JL (x / y)) :: rest))) : W p l e R s m args below meth c H locs cells slots Q (F0 m pc ls (.long (JL y) :: .long (JL x) :: rest)) :=
  lv_ldiv hx hb hdg (fun q => by rw [show (0 : Int64) = JL 0 from rfl, JL_eq (by omega) h4 (by omega) (by omega)] at q; omega) (by rw [JL_divN h1 h2 h3 h4]; exact k)
theorem j_lconst (hx : p.tables.exec = Jvm.exec) (hb : c.code = cc) {n : Fin 2} {z : Int} (hdg : decode cc pc = .ok (.lconst n, 1)) (hv : Int64.ofNat (n : Nat) = JL z) (k : W p l e R s m args below meth c H locs cells slots Q (F0 m (pc + 1) ls (.long (JL z) :: rest))) : W p l e R s m args below meth c H locs cells slots Q (F0 m pc ls rest) := lv_lconst hx hb hdg hv k
theorem j_ldc (hx : p.tables.exec = Jvm.exec) (hb : c.code = cc) {own : String} {index : Nat} {v : Int32} {z : Int} (hown : s.vm.findClass own = some m.cls) (hc : (Jvm.Cond.constant own index v).before args s = true) (hz : v = J z) (hdg : decode cc pc = .ok (.ldc index, 2)) (k : W p l e R s m args below meth c H locs cells slots Q (F0 m (pc + 2) ls (.int (J z) :: rest))) : W p l e R s m args below meth c H locs cells slots Q (F0 m pc ls rest) := lv_ldc hx hb hown hc hdg (by rw [hz]; exact k)
theorem j_ldc2 (hx : p.tables.exec = Jvm.exec) (hb : c.code = cc) {own : String} {index : Nat} {v : Int64} {z : Int} (hown : s.vm.findClass own = some m.cls) (hc : (Jvm.Cond.constantLong own index v).before args s = true) (hz : v = JL z) (hdg : decode cc pc = .ok (.ldc2_w index, 3)) (k : W p l e R s m args below meth c H locs cells slots Q (F0 m (pc + 3) ls (.long (JL z) :: rest))) : W p l e R s m args below meth c H locs cells slots Q (F0 m pc ls rest) := lv_ldc2 hx hb hown hc hdg (by rw [hz]; exact k)
theorem j_lcmp (hx : p.tables.exec = Jvm.exec) (hb : c.code = cc) {x y : Int} (h1 : -9223372036854775808 ≤ x) (h2 : x < 9223372036854775808) (h3 : -9223372036854775808 ≤ y) (h4 : y < 9223372036854775808) (hdg : decode cc pc = .ok (.lcmp, 1)) (k : W p l e R s m args below meth c H locs cells slots Q (F0 m (pc + 1) ls (.int (J (cmp3 x y)) :: rest))) : W p l e R s m args below meth c H locs cells slots Q (F0 m pc ls (.long (JL y) :: .long (JL x) :: rest)) := W.lcmp hx hb hdg (by rw [J_cmp h1 h2 h3 h4]; exact k)
/-- a value told otherwise -/
theorem j_re {x y : Int} (h : x = y) (k : W p l e R s m args below meth c H locs cells slots Q (F0 m pc ls (.int (J y) :: rest))) : W p l e R s m args below meth c H locs cells slots Q (F0 m pc ls (.int (J x) :: rest)) := by rw [h]; exact k
theorem j_reL {x y : Int} (h : x = y) (k : W p l e R s m args below meth c H locs cells slots Q (F0 m pc ls (.long (JL y) :: rest))) : W p l e R s m args below meth c H locs cells slots Q (F0 m pc ls (.long (JL x) :: rest)) := by rw [h]; exact k
theorem j_qs {o : Option Nat} {b : Nat} (h : o = some b) (k : W p l e R s m args below meth c H locs cells slots Q (F0 m pc ls (.ref b :: rest))) : W p l e R s m args below meth c H locs cells slots Q (F0 m pc ls (va_rf o :: rest)) := by rw [h]; exact k
theorem j_qn {o : Option Nat} (h : o = none) (k : W p l e R s m args below meth c H locs cells slots Q (F0 m pc ls (.null :: rest))) : W p l e R s m args below meth c H locs cells slots Q (F0 m pc ls (va_rf o :: rest)) := by rw [h]; exact k
/-! compares -/
theorem j_ceq (hx : p.tables.exec = Jvm.exec) (hb : c.code = cc) {x y : Int} {off : Int} {tgt : Nat} (h1 : -2147483648 ≤ x) (h2 : x < 2147483648) (h3 : -2147483648 ≤ y) (h4 : y < 2147483648) (hdg : decode cc pc = .ok (.if_icmp .eq off, 3)) (ht : (pc : Int) + off = (tgt : Int)) (kt : x = y → W p l e R s m args below meth c H locs cells slots Q (F0 m tgt ls rest)) (kf : x ≠ y → W p l e R s m args below meth c H locs cells slots Q (F0 m (pc + 3) ls rest)) : W p l e R s m args below meth c H locs cells slots Q (F0 m pc ls (.int (J y) :: .int (J x) :: rest)) := lv_icmp_eq hx hb hdg ht (fun q => kt ((J_eq h1 h2 h3 h4).mp q)) (fun q => kf (fun z => q ((J_eq h1 h2 h3 h4).mpr z)))
theorem j_cne (hx : p.tables.exec = Jvm.exec) (hb : c.code = cc) {x y : Int} {off : Int} {tgt : Nat} (h1 : -2147483648 ≤ x) (h2 : x < 2147483648) (h3 : -2147483648 ≤ y) (h4 : y < 2147483648) (hdg : decode cc pc = .ok (.if_icmp .ne off, 3)) (ht : (pc : Int) + off = (tgt : Int)) (kt : x ≠ y → W p l e R s m args below meth c H locs cells slots Q (F0 m tgt ls rest)) (kf : x = y → W p l e R s m args below meth c H locs cells slots Q (F0 m (pc + 3) ls rest)) : W p l e R s m args below meth c H locs cells slots Q (F0 m pc ls (.int (J y) :: .int (J x) :: rest)) := lv_icmp_ne hx hb hdg ht (fun q => kt (fun z => q ((J_eq h1 h2 h3 h4).mpr z))) (fun q => kf ((J_eq h1 h2 h3 h4).mp q))
theorem j_clt (hx : p.tables.exec = Jvm.exec) (hb : c.code = cc) {x y : Int} {off : Int} {tgt : Nat} (h1 : -2147483648 ≤ x) (h2 : x < 2147483648) (h3 : -2147483648 ≤ y) (h4 : y < 2147483648) (hdg : decode cc pc = .ok (.if_icmp .lt off, 3)) (ht : (pc : Int) + off = (tgt : Int)) (kt : x < y → W p l e R s m args below meth c H locs cells slots Q (F0 m tgt ls rest)) (kf : y ≤ x → W p l e R s m args below meth c H locs cells slots Q (F0 m (pc + 3) ls rest)) : W p l e R s m args below meth c H locs cells slots Q (F0 m pc ls (.int (J y) :: .int (J x) :: rest)) := lv_icmp_lt hx hb hdg ht (fun q => kt ((J_lt h1 h2 h3 h4).mp q)) (fun q => kf (Int.not_lt.mp fun z => q ((J_lt h1 h2 h3 h4).mpr z)))
theorem j_cge (hx : p.tables.exec = Jvm.exec) (hb : c.code = cc) {x y : Int} {off : Int} {tgt : Nat} (h1 : -2147483648 ≤ x) (h2 : x < 2147483648) (h3 : -2147483648 ≤ y) (h4 : y < 2147483648) (hdg : decode cc pc = .ok (.if_icmp .ge off, 3)) (ht : (pc : Int) + off = (tgt : Int)) (kt : y ≤ x → W p l e R s m args below meth c H locs cells slots Q (F0 m tgt ls rest)) (kf : x < y → W p l e R s m args below meth c H locs cells slots Q (F0 m (pc + 3) ls rest)) : W p l e R s m args below meth c H locs cells slots Q (F0 m pc ls (.int (J y) :: .int (J x) :: rest)) := lv_icmp_ge hx hb hdg ht (fun q => kt ((J_le h3 h4 h1 h2).mp q)) (fun q => kf (Int.not_le.mp fun z => q ((J_le h3 h4 h1 h2).mpr z)))
theorem j_cgt (hx : p.tables.exec = Jvm.exec) (hb : c.code = cc) {x y : Int} {off : Int} {tgt : Nat} (h1 : -2147483648 ≤ x) (h2 : x < 2147483648) (h3 : -2147483648 ≤ y) (h4 : y < 2147483648) (hdg : decode cc pc = .ok (.if_icmp .gt off, 3)) (ht : (pc : Int) + off = (tgt : Int)) (kt : y < x → W p l e R s m args below meth c H locs cells slots Q (F0 m tgt ls rest)) (kf : x ≤ y → W p l e R s m args below meth c H locs cells slots Q (F0 m (pc + 3) ls rest)) : W p l e R s m args below meth c H locs cells slots Q (F0 m pc ls (.int (J y) :: .int (J x) :: rest)) := lv_icmp_gt hx hb hdg ht (fun q => kt ((J_lt h3 h4 h1 h2).mp q)) (fun q => kf (Int.not_lt.mp fun z => q ((J_lt h3 h4 h1 h2).mpr z)))
theorem j_cle (hx : p.tables.exec = Jvm.exec) (hb : c.code = cc) {x y : Int} {off : Int} {tgt : Nat} (h1 : -2147483648 ≤ x) (h2 : x < 2147483648) (h3 : -2147483648 ≤ y) (h4 : y < 2147483648) (hdg : decode cc pc = .ok (.if_icmp .le off, 3)) (ht : (pc : Int) + off = (tgt : Int)) (kt : x ≤ y → W p l e R s m args below meth c H locs cells slots Q (F0 m tgt ls rest)) (kf : y < x → W p l e R s m args below meth c H locs cells slots Q (F0 m (pc + 3) ls rest)) : W p l e R s m args below meth c H locs cells slots Q (F0 m pc ls (.int (J y) :: .int (J x) :: rest)) := lv_icmp_le hx hb hdg ht (fun q => kt ((J_le h1 h2 h3 h4).mp q)) (fun q => kf (Int.not_le.mp fun z => q ((J_le h1 h2 h3 h4).mpr z)))
theorem j_eq0 (hx : p.tables.exec = Jvm.exec) (hb : c.code = cc) {x : Int} {off : Int} {tgt : Nat} (h1 : -2147483648 ≤ x) (h2 : x < 2147483648) (hdg : decode cc pc = .ok (.ifCond .eq off, 3)) (ht : (pc : Int) + off = (tgt : Int)) (kt : x = 0 → W p l e R s m args below meth c H locs cells slots Q (F0 m tgt ls rest)) (kf : x ≠ 0 → W p l e R s m args below meth c H locs cells slots Q (F0 m (pc + 3) ls rest)) : W p l e R s m args below meth c H locs cells slots Q (F0 m pc ls (.int (J x) :: rest)) := lv_if_eq hx hb hdg ht (fun q => kt ((J_eq h1 h2 (by omega) (by omega)).mp q)) (fun q => kf (fun z => q ((J_eq h1 h2 (by omega) (by omega)).mpr z)))
theorem j_ne0 (hx : p.tables.exec = Jvm.exec) (hb : c.code = cc) {x : Int} {off : Int} {tgt : Nat} (h1 : -2147483648 ≤ x) (h2 : x < 2147483648) (hdg : decode cc pc = .ok (.ifCond .ne off, 3)) (ht : (pc : Int) + off = (tgt : Int)) (kt : x ≠ 0 → W p l e R s m args below meth c H locs cells slots Q (F0 m tgt ls rest)) (kf : x = 0 → W p l e R s m args below meth c H locs cells slots Q (F0 m (pc + 3) ls rest)) : W p l e R s m args below meth c H locs cells slots Q (F0 m pc ls (.int (J x) :: rest)) := lv_if_ne hx hb hdg ht (fun q => kt (fun z => q ((J_eq h1 h2 (by omega) (by omega)).mpr z))) (fun q => kf ((J_eq h1 h2 (by omega) (by omega)).mp q))
theorem j_lt0 (hx : p.tables.exec = Jvm.exec) (hb : c.code = cc) {x : Int} {off : Int} {tgt : Nat} (h1 : -2147483648 ≤ x) (h2 : x < 2147483648) (hdg : decode cc pc = .ok (.ifCond .lt off, 3)) (ht : (pc : Int) + off = (tgt : Int)) (kt : x < 0 → W p l e R s m args below meth c H locs cells slots Q (F0 m tgt ls rest)) (kf : 0 ≤ x → W p l e R s m args below meth c H locs cells slots Q (F0 m (pc + 3) ls rest)) : W p l e R s m args below meth c H locs cells slots Q (F0 m pc ls (.int (J x) :: rest)) := lv_if_lt hx hb hdg ht (fun q => kt ((J_lt h1 h2 (by omega) (by omega)).mp q)) (fun q => kf (Int.not_lt.mp fun z => q ((J_lt h1 h2 (by omega) (by omega)).mpr z)))
theorem j_ge0 (hx : p.tables.exec = Jvm.exec) (hb : c.code = cc) {x : Int} {off : Int} {tgt : Nat} (h1 : -2147483648 ≤ x) (h2 : x < 2147483648) (hdg : decode cc pc = .ok (.ifCond .ge off, 3)) (ht : (pc : Int) + off = (tgt : Int)) (kt : 0 ≤ x → W p l e R s m args below meth c H locs cells slots Q (F0 m tgt ls rest)) (kf : x < 0 → W p l e R s m args below meth c H locs cells slots Q (F0 m (pc + 3) ls rest)) : W p l e R s m args below meth c H locs cells slots Q (F0 m pc ls (.int (J x) :: rest)) := lv_if_ge hx hb hdg ht (fun q => kt ((J_le (by omega) (by omega) h1 h2).mp q)) (fun q => kf (Int.not_le.mp fun z => q ((J_le (by omega) (by omega) h1 h2).mpr z)))
theorem j_gt0 (hx : p.tables.exec = Jvm.exec) (hb : c.code = cc) {x : Int} {off : Int} {tgt : Nat} (h1 : -2147483648 ≤ x) (h2 : x < 2147483648) (hdg : decode cc pc = .ok (.ifCond .gt off, 3)) (ht : (pc : Int) + off = (tgt : Int)) (kt : 0 < x → W p l e R s m args below meth c H locs cells slots Q (F0 m tgt ls rest)) (kf : x ≤ 0 → W p l e R s m args below meth c H locs cells slots Q (F0 m (pc + 3) ls rest)) : W p l e R s m args below meth c H locs cells slots Q (F0 m pc ls (.int (J x) :: rest)) := lv_if_gt hx hb hdg ht (fun q => kt ((J_lt (by omega) (by omega) h1 h2).mp q)) (fun q => kf (Int.not_lt.mp fun z => q ((J_lt (by omega) (by omega) h1 h2).mpr z)))
theorem j_le0 (hx : p.tables.exec = Jvm.exec) (hb : c.code = cc) {x : Int} {off : Int} {tgt : Nat} (h1 : -2147483648 ≤ x) (h2 : x < 2147483648) (hdg : decode cc pc = .ok (.ifCond .le off, 3)) (ht : (pc : Int) + off = (tgt : Int)) (kt : x ≤ 0 → W p l e R s m args below meth c H locs cells slots Q (F0 m tgt ls rest)) (kf : 0 < x → W p l e R s m args below meth c H locs cells slots Q (F0 m (pc + 3) ls rest)) : W p l e R s m args below meth c H locs cells slots Q (F0 m pc ls (.int (J x) :: rest)) := lv_if_le hx hb hdg ht (fun q => kt ((J_le h1 h2 (by omega) (by omega)).mp q)) (fun q => kf (Int.not_le.mp fun z => q ((J_le h1 h2 (by omega) (by omega)).mpr z)))
theorem j_eqP (hx : p.tables.exec = Jvm.exec) (hb : c.code = cc) {d : Prop} {inst : Decidable d} {off : Int} {tgt : Nat} (hdg : decode cc pc = .ok (.ifCond .eq off, 3)) (ht : (pc : Int) + off = (tgt : Int)) (kt : ¬ d → W p l e R s m args below meth c H locs cells slots Q (F0 m tgt ls rest)) (kf : d → W p l e R s m args below meth c H locs cells slots Q (F0 m (pc + 3) ls rest)) : W p l e R s m args below meth c H locs cells slots Q (F0 m pc ls (.int (J (@pI d inst)) :: rest)) :=
  j_eq0 hx hb (by have := @pI_rng d inst; omega) (by have := @pI_rng d inst; omega) hdg ht (fun q => kt (fun z => by rw [@pI_t d inst z] at q; omega)) (fun q => kf (Classical.byContradiction fun z => q (@pI_f d inst z)))
theorem j_neP (hx : p.tables.exec = Jvm.exec) (hb : c.code = cc) {d : Prop} {inst : Decidable d} {off : Int} {tgt : Nat} (hdg : decode cc pc = .ok (.ifCond .ne off, 3)) (ht : (pc : Int) + off = (tgt : Int)) (kt : d → W p l e R s m args below meth c H locs cells slots Q (F0 m tgt ls rest)) (kf : ¬ d → W p l e R s m args below meth c H locs cells slots Q (F0 m (pc + 3) ls rest)) : W p l e R s m args below meth c H locs cells slots Q (F0 m pc ls (.int (J (@pI d inst)) :: rest)) :=
  j_ne0 hx hb (by have := @pI_rng d inst; omega) (by have := @pI_rng d inst; omega) hdg ht (fun q => kt (Classical.byContradiction fun z => q (@pI_f d inst z))) (fun q => kf (fun z => by rw [@pI_t d inst z] at q; omega))
theorem j_tabIn (hx : p.tables.exec = Jvm.exec) (hb : c.code = cc) {dflt lo hi : Int} {offs : Array Int} {len : Nat} {z : Int} {off : Int} {tgt : Nat} (k0 : Int) (hz : z = k0) (h1 : -2147483648 ≤ k0) (h2 : k0 < 2147483648) (hdg : decode cc pc = .ok (.tableswitch dflt lo hi offs, len)) (hlo : lo ≤ k0) (hhi : k0 ≤ hi) (ho : offs[(k0 - lo).toNat]? = some off) (ht : (pc : Int) + off = (tgt : Int)) (k : W p l e R s m args below meth c H locs cells slots Q (F0 m tgt ls rest)) : W p l e R s m args below meth c H locs cells slots Q (F0 m pc ls (.int (J z) :: rest)) := by
  subst hz
  have q := J_toInt h1 h2
  exact lv_tableIn hx hb hdg (by rw [q]; omega) (by rw [q]; omega) (by rw [q]; exact ho) ht k
theorem j_tabOut (hx : p.tables.exec = Jvm.exec) (hb : c.code = cc) {dflt lo hi : Int} {offs : Array Int} {len : Nat} {z : Int} {tgt : Nat} (h1 : -2147483648 ≤ z) (h2 : z < 2147483648) (hdg : decode cc pc = .ok (.tableswitch dflt lo hi offs, len)) (h : z < lo ∨ hi < z) (ht : (pc : Int) + dflt = (tgt : Int)) (k : W p l e R s m args below meth c H locs cells slots Q (F0 m tgt ls rest)) : W p l e R s m args below meth c H locs cells slots Q (F0 m pc ls (.int (J z) :: rest)) :=
  lv_tableOut hx hb hdg (by rw [J_toInt h1 h2]; exact h) ht k
/-! fields -/
theorem j_get (hx : p.tables.exec = Jvm.exec) (hb : c.code = cc) {own ref C : String} {T : u_T} {N ci index : Nat} {Ts : List Cond} (hts : ∀ w ∈ Ts, w.before args s = true) (hin : ∀ w ∈ u_ws C T N, w ∈ Ts) (hown : s.vm.findClass own = some m.cls) (hK : KK G s) {fs : List Value} (he : At G H a (eO ci fs)) (hc : vwCl[ci]? = some (C, T, N)) (k : Nat) (hk : k < N) (hlink : (Cond.fieldLink own index ref (T k).2.1 (T k).2.2.1).before args s = true) (hsame : ∀ x, s.fieldFound? (T k).1 (T k).2.1 (T k).2.2.1 = some x → s.fieldFound? ref (T k).2.1 (T k).2.2.1 = some x) {v : Value} (hv : fs[k]? = some v) (hdg : decode cc pc = .ok (.getfield index, 3))
    (kk : W p l e R s m args below meth c H locs cells slots Q (F0 m (pc + 3) ls (v :: rest))) : W p l e R s m args below meth c H locs cells slots Q (F0 m pc ls (.ref a :: rest)) := va_get hx hb hts hin hown hK.1 he.P 0 rfl hc k hk hlink hsame hv hdg kk
theorem j_getN (hx : p.tables.exec = Jvm.exec) (hb : c.code = cc) {own ref C host : String} {T : u_T} {N ci index : Nat} {Ts : List Cond} (hts : ∀ w ∈ Ts, w.before args s = true) (hin : ∀ w ∈ u_ws C T N, w ∈ Ts) (hown : s.vm.findClass own = some m.cls) (hK : KK G s) {fs : List Value} (he : At G H a (eO ci fs)) (hc : vwCl[ci]? = some (C, T, N)) (k : Nat) (hk : k < N) (hlink : va_Nw (.fieldLinkNest own index ref (T k).2.1 (T k).2.2.1 host) s) (hsame : ∀ x, s.fieldFound? (T k).1 (T k).2.1 (T k).2.2.1 = some x → s.fieldFound? ref (T k).2.1 (T k).2.2.1 = some x) {v : Value} (hv : fs[k]? = some v) (hdg : decode cc pc = .ok (.getfield index, 3))
    (kk : W p l e R s m args below meth c H locs cells slots Q (F0 m (pc + 3) ls (v :: rest))) : W p l e R s m args below meth c H locs cells slots Q (F0 m pc ls (.ref a :: rest)) := va_getN hx hb hts hin hown hK.1 he.P 0 rfl hc k hk (va_Nw.use rfl hlink) hsame hv hdg kk
theorem j_put (hx : p.tables.exec = Jvm.exec) (hb : c.code = cc) {own ref C : String} {T : u_T} {N ci index : Nat} {Ts : List Cond} (hts : ∀ w ∈ Ts, w.before args s = true) (hin : ∀ w ∈ u_ws C T N, w ∈ Ts) (ty0 : Nat → FieldType) (hty : ∀ k, k < N → parseFieldDescriptor (T k).2.2.1 = some (ty0 k)) (hnm : ∀ a, a < N → ∀ b, b < N → a ≠ b → (T a).2.1 ≠ (T b).2.1) (hown : s.vm.findClass own = some m.cls) (hK : KK G s) {fs : List Value} (he : At G H a (eO ci fs)) (hc : vwCl[ci]? = some (C, T, N)) (k : Nat) (hk : k < N) (hlink : (Cond.fieldLink own index ref (T k).2.1 (T k).2.2.1).before args s = true) (hsame : ∀ x, s.fieldFound? (T k).1 (T k).2.1 (T k).2.2.1 = some x → s.fieldFound? ref (T k).2.1 (T k).2.2.1 = some x) (hfin : (T k).2.2.2 = false) {ty : FieldType} {v : Value} (hd : parseFieldDescriptor (T k).2.2.1 = some ty) (hn : narrow ty v = v) (hfit : fits ty v = true) (hl : k < fs.length) (hL : ∀ q ∈ locs, A q.base) (hA : A a)
    (hdg : decode cc pc = .ok (.putfield index, 3)) (kk : ∀ (H1 : Heap) (locs1 : List Loc), At G H1 a (eO ci (fs.set k v)) → Hx H H1 a → (∀ q ∈ locs1, A q.base) → W p l e R s m args below meth c H1 locs1 cells slots Q (F0 m (pc + 3) ls rest)) : W p l e R s m args below meth c H locs cells slots Q (F0 m pc ls (v :: .ref a :: rest)) := by
  have hap := va_apart (own := own) hts hin ty0 hty hnm hK.1 hc
  obtain ⟨r, h1, cell, q1, q2, q3, q4⟩ := (show va_at G.1 vwCl (a, .inr (ci, fs)) H from he)
  have hr : r = (C, T, N) := Option.some.inj (h1.symm.trans hc)
  subst hr
  obtain ⟨hS, hfc, kC, hkC, hkind⟩ := hK.1.1 ci _ hc
  obtain ⟨cf, kf, fi, f, hi, hsl⟩ := hS k hk
  have hlay := hts _ (hin _ (u_in_lay hk))
  unfold u_lay at hlay
  rw [if_neg (by rw [hfin]; decide)] at hlay
  have hst := (u_facts hfc hkC (u_lays hts hin hk) hi).1
  have h6 := u_store hfc hkC hkind hlay hi hd hn hfit
  refine W.putK hx hb (f := f) ⟨hown, hlink, ⟨_, _, _, hsame _ hi⟩, hst⟩ (by rw [q2]; exact h6) q1 q3 (by rw [hsl]; exact k2_hasslot (q4 k hk)) rfl rfl hdg fun H' e1 e2 e3 => ?_
  rw [hsl] at e1 ⊢
  refine kk H' _ ⟨_, hc, t_OB.to (V := updV (vp_V fs) k v) ⟨_, e1, q2, q3, t_set q4 hap hk v⟩ (fun j _ => vp_updV_set hl v j)⟩ ⟨e2, e3⟩ (fun q hq => ?_)
  rcases List.mem_append.mp hq with h | h
  · exact hL q h
  · rw [List.mem_singleton.mp h]; exact hA
theorem j_putF (hx : p.tables.exec = Jvm.exec) (hb : c.code = cc) {own ref C : String} {T : u_T} {N ci index : Nat} {Ts : List Cond} (hts : ∀ w ∈ Ts, w.before args s = true) (hin : ∀ w ∈ u_ws C T N, w ∈ Ts) (ty0 : Nat → FieldType) (hty : ∀ k, k < N → parseFieldDescriptor (T k).2.2.1 = some (ty0 k)) (hnm : ∀ a, a < N → ∀ b, b < N → a ≠ b → (T a).2.1 ≠ (T b).2.1) (hown : s.vm.findClass own = some m.cls) (hK : KK G s) {fs : List Value} (he : At G H a (eO ci fs)) (hc : vwCl[ci]? = some (C, T, N)) (k : Nat) (hk : k < N) (hlink : (Cond.fieldLink own index ref (T k).2.1 (T k).2.2.1).before args s = true) (hsame : ∀ x, s.fieldFound? (T k).1 (T k).2.1 (T k).2.2.1 = some x → s.fieldFound? ref (T k).2.1 (T k).2.2.1 = some x) (hfin : (T k).2.2.2 = true) (hin2 : meth.name = "<init>") (hdecl : (T k).1 = own) {ty : FieldType} {v : Value} (hd : parseFieldDescriptor (T k).2.2.1 = some ty) (hn : narrow ty v = v) (hfit : fits ty v = true) (hl : k < fs.length) (hL : ∀ q ∈ locs, A q.base) (hA : A a)
    (hdg : decode cc pc = .ok (.putfield index, 3)) (kk : ∀ (H1 : Heap) (locs1 : List Loc), At G H1 a (eO ci (fs.set k v)) → Hx H H1 a → (∀ q ∈ locs1, A q.base) → W p l e R s m args below meth c H1 locs1 cells slots Q (F0 m (pc + 3) ls rest)) : W p l e R s m args below meth c H locs cells slots Q (F0 m pc ls (v :: .ref a :: rest)) := by
  have hap := va_apart (own := own) hts hin ty0 hty hnm hK.1 hc
  obtain ⟨r, h1, cell, q1, q2, q3, q4⟩ := (show va_at G.1 vwCl (a, .inr (ci, fs)) H from he)
  have hr : r = (C, T, N) := Option.some.inj (h1.symm.trans hc)
  subst hr
  obtain ⟨hS, hfc, kC, hkC, hkind⟩ := hK.1.1 ci _ hc
  obtain ⟨cf, kf, fi, f, hi, hsl⟩ := hS k hk
  have hlay := hts _ (hin _ (u_in_lay hk))
  unfold u_lay at hlay
  rw [if_pos hfin] at hlay
  have hst := (u_facts hfc hkC (u_lays hts hin hk) hi).1
  have hcf : m.cls = cf := by
    obtain ⟨_, _, c', _, _, _, -, -, hf', -, -, -, hown2, -⟩ := Cond.laysFinal_spec hlay
    have e1 : c' = cf := by have := hi.symm.trans hf'; simp at this; exact this.1.symm
    rw [hdecl] at hown2
    rw [← e1]; exact Option.some.inj (hown.symm.trans hown2)
  have h6 := u_fits hfc hkC hkind (Or.inr hlay) hi hd hn hfit
  refine W.putFinK hx hb hown hlink (hsame _ hi) hst hcf hin2 (by rw [q2]; exact h6) q1 q3 (by rw [hsl]; exact k2_hasslot (q4 k hk)) rfl rfl hdg fun H' e1 e2 e3 => ?_
  rw [hsl] at e1 ⊢
  refine kk H' _ ⟨_, hc, t_OB.to (V := updV (vp_V fs) k v) ⟨_, e1, q2, q3, t_set q4 hap hk v⟩ (fun j _ => vp_updV_set hl v j)⟩ ⟨e2, e3⟩ (fun q hq => ?_)
  rcases List.mem_append.mp hq with h | h
  · exact hL q h
  · rw [List.mem_singleton.mp h]; exact hA
/-! arrays -/
theorem j_iald (hx : p.tables.exec = Jvm.exec) (hb : c.code = cc) (hK : KK G s) {n : Nat} {f : Int → Int} (he : At G H a (eI G n f)) {z : Int} (h0 : 0 ≤ z) (h1 : z < (n : Int)) (hn : n < 2147483648) (hdg : decode cc pc = .ok (.iaload, 1)) (kk : W p l e R s m args below meth c H locs cells slots Q (F0 m (pc + 1) ls (.int (J (f z)) :: rest))) : W p l e R s m args below meth c H locs cells slots Q (F0 m pc ls (.int (J z) :: .ref a :: rest)) := by
  exact va_iald (f := fun j : Nat => J (f (j : Int))) hx hb hK.1 he.P 0 0 rfl rfl (J_in h0 h1 hn) hdg (by rw [J_clamp h0 (by omega)]; exact kk)
theorem j_zald (hx : p.tables.exec = Jvm.exec) (hb : c.code = cc) (hK : KK G s) {n : Nat} {f : Int → Int} (he : At G H a (eZ G n f)) {z : Int} (h0 : 0 ≤ z) (h1 : z < (n : Int)) (hn : n < 2147483648) (hdg : decode cc pc = .ok (.baload, 1)) (kk : W p l e R s m args below meth c H locs cells slots Q (F0 m (pc + 1) ls (.int (J (f z)) :: rest))) : W p l e R s m args below meth c H locs cells slots Q (F0 m pc ls (.int (J z) :: .ref a :: rest)) := by
  exact va_zald (f := fun j : Nat => J (f (j : Int))) hx hb hK.1 he.P 0 2 rfl rfl (J_in h0 h1 hn) hdg (by rw [J_clamp h0 (by omega)]; exact kk)
theorem j_lald (hx : p.tables.exec = Jvm.exec) (hb : c.code = cc) (hK : KK G s) {n : Nat} {f : Int → Int} (he : At G H a (eL G n f)) {z : Int} (h0 : 0 ≤ z) (h1 : z < (n : Int)) (hn : n < 2147483648) (hdg : decode cc pc = .ok (.laload, 1)) (kk : W p l e R s m args below meth c H locs cells slots Q (F0 m (pc + 1) ls (.long (JL (f z)) :: rest))) : W p l e R s m args below meth c H locs cells slots Q (F0 m pc ls (.int (J z) :: .ref a :: rest)) := by
  exact va_lald (f := fun j : Nat => JL (f (j : Int))) hx hb hK.1 he.P 0 1 rfl rfl (J_in h0 h1 hn) hdg (by rw [J_clamp h0 (by omega)]; exact kk)
theorem j_aald (hx : p.tables.exec = Jvm.exec) (hb : c.code = cc) (hK : KK G s) {k n : Nat} {C : String} {f : Int → Option Nat} (he : At G H a (eQ G k n f)) (ht : (tysG G.2)[k]? = some (G.2 k, .object C)) {z : Int} (h0 : 0 ≤ z) (h1 : z < (n : Int)) (hn : n < 2147483648) (hdg : decode cc pc = .ok (.aaload, 1)) (kk : W p l e R s m args below meth c H locs cells slots Q (F0 m (pc + 1) ls (va_rf (f z) :: rest))) : W p l e R s m args below meth c H locs cells slots Q (F0 m pc ls (.int (J z) :: .ref a :: rest)) := by
  exact va_aldq (f := fun j : Nat => f (j : Int)) hx hb hK.1 he.P 0 k rfl ht (J_in h0 h1 hn) hdg (by rw [J_clamp h0 (by omega)]; exact kk)
theorem j_alI (hx : p.tables.exec = Jvm.exec) (hb : c.code = cc) (hK : KK G s) {n : Nat} {f : Int → Int} (he : At G H a (eI G n f)) (hdg : decode cc pc = .ok (.arraylength, 1)) (kk : W p l e R s m args below meth c H locs cells slots Q (F0 m (pc + 1) ls (.int (J (n : Int)) :: rest))) : W p l e R s m args below meth c H locs cells slots Q (F0 m pc ls (.ref a :: rest)) := va_alen hx hb hK.1 he.P 0 0 rfl rfl (J_nat n).symm hdg kk
theorem j_alL (hx : p.tables.exec = Jvm.exec) (hb : c.code = cc) (hK : KK G s) {n : Nat} {f : Int → Int} (he : At G H a (eL G n f)) (hdg : decode cc pc = .ok (.arraylength, 1)) (kk : W p l e R s m args below meth c H locs cells slots Q (F0 m (pc + 1) ls (.int (J (n : Int)) :: rest))) : W p l e R s m args below meth c H locs cells slots Q (F0 m pc ls (.ref a :: rest)) := va_alen hx hb hK.1 he.P 0 1 rfl rfl (J_nat n).symm hdg kk
theorem j_alQ (hx : p.tables.exec = Jvm.exec) (hb : c.code = cc) (hK : KK G s) {k n : Nat} {C : String} {f : Int → Option Nat} (he : At G H a (eQ G k n f)) (ht : (tysG G.2)[k]? = some (G.2 k, .object C)) (hdg : decode cc pc = .ok (.arraylength, 1)) (kk : W p l e R s m args below meth c H locs cells slots Q (F0 m (pc + 1) ls (.int (J (n : Int)) :: rest))) : W p l e R s m args below meth c H locs cells slots Q (F0 m pc ls (.ref a :: rest)) := va_alen hx hb hK.1 he.P 0 k rfl ht (J_nat n).symm hdg kk
theorem up_eq {α β : Type} (g : α → β) (f : Int → α) {z : Int} (h0 : 0 ≤ z) (x : α) (k : Nat) (hk : (k : Int) = z) : (fun j : Nat => if j = k then g x else g (f (j : Int))) = fun j : Nat => g (uf f z x (j : Int)) := by
  funext j
  by_cases h : j = k
  · subst h; simp [uf, hk]
  · have : (j : Int) ≠ z := by omega
    simp [uf, h, this]
theorem j_iast (hx : p.tables.exec = Jvm.exec) (hb : c.code = cc) (hK : KK G s) {n : Nat} {f : Int → Int} (he : At G H a (eI G n f)) {z x : Int} (h0 : 0 ≤ z) (h1 : z < (n : Int)) (hn : n < 2147483648) (hL : ∀ q ∈ locs, A q.base) (hA : A a) (hdg : decode cc pc = .ok (.iastore, 1)) (kk : ∀ (H1 : Heap) (locs1 : List Loc), At G H1 a (eI G n (uf f z x)) → Hx H H1 a → (∀ q ∈ locs1, A q.base) → W p l e R s m args below meth c H1 locs1 cells slots Q (F0 m (pc + 1) ls rest)) : W p l e R s m args below meth c H locs cells slots Q (F0 m pc ls (.int (J x) :: .int (J z) :: .ref a :: rest)) := by
  have hin := J_in h0 h1 hn
  refine W.iast hx hb he ((hK.1.2 0 _ rfl).1 n (fun j => .int (J (f j)))) (fun q => by cases q) (by show ¬ (J z < 0 ∨ (arrV _ _ _).slots.size ≤ _); rw [arrV_size]; exact hin) rfl rfl hdg fun H1 e z1 oq => ?_
  refine kk H1 _ ?_ ⟨z1, oq⟩ (fun q hq => ?_)
  · show H1[a]? = some (vp_cell _ _)
    rw [e, vp_cell_i, vp_cell_i, arrV_store]
    exact congrArg (fun g => some (arrV (G.2 0) n g)) (up_eq (fun y => Value.int (J y)) f h0 x _ (J_clamp h0 (by omega)))
  · rcases List.mem_append.mp hq with h | h
    · exact hL q h
    · rw [List.mem_singleton.mp h]; exact hA
theorem j_last (hx : p.tables.exec = Jvm.exec) (hb : c.code = cc) (hK : KK G s) {n : Nat} {f : Int → Int} (he : At G H a (eL G n f)) {z x : Int} (h0 : 0 ≤ z) (h1 : z < (n : Int)) (hn : n < 2147483648) (hL : ∀ q ∈ locs, A q.base) (hA : A a) (hdg : decode cc pc = .ok (.lastore, 1)) (kk : ∀ (H1 : Heap) (locs1 : List Loc), At G H1 a (eL G n (uf f z x)) → Hx H H1 a → (∀ q ∈ locs1, A q.base) → W p l e R s m args below meth c H1 locs1 cells slots Q (F0 m (pc + 1) ls rest)) : W p l e R s m args below meth c H locs cells slots Q (F0 m pc ls (.long (JL x) :: .int (J z) :: .ref a :: rest)) := by
  have hin := J_in h0 h1 hn
  refine W.last hx hb he ((hK.1.2 1 _ rfl).1 n (fun j => .long (JL (f j)))) (fun q => by cases q) (by show ¬ (J z < 0 ∨ (arrV _ _ _).slots.size ≤ _); rw [arrV_size]; exact hin) rfl rfl hdg fun H1 e z1 oq => ?_
  refine kk H1 _ ?_ ⟨z1, oq⟩ (fun q hq => ?_)
  · show H1[a]? = some (vp_cell _ _)
    rw [e, vp_cell_l, vp_cell_l, arrV_store]
    exact congrArg (fun g => some (arrV (G.2 1) n g)) (up_eq (fun y => Value.long (JL y)) f h0 x _ (J_clamp h0 (by omega)))
  · rcases List.mem_append.mp hq with h | h
    · exact hL q h
    · rw [List.mem_singleton.mp h]; exact hA
theorem j_zast (hx : p.tables.exec = Jvm.exec) (hb : c.code = cc) (hK : KK G s) {n : Nat} {f : Int → Int} (he : At G H a (eZ G n f)) {z x : Int} (h0 : 0 ≤ z) (h1 : z < (n : Int)) (hn : n < 2147483648) (hx1 : narrow .boolean (.int (J x)) = .int (J x)) (hL : ∀ q ∈ locs, A q.base) (hA : A a) (hdg : decode cc pc = .ok (.bastore, 1)) (kk : ∀ (H1 : Heap) (locs1 : List Loc), At G H1 a (eZ G n (uf f z x)) → Hx H H1 a → (∀ q ∈ locs1, A q.base) → W p l e R s m args below meth c H1 locs1 cells slots Q (F0 m (pc + 1) ls rest)) : W p l e R s m args below meth c H locs cells slots Q (F0 m pc ls (.int (J x) :: .int (J z) :: .ref a :: rest)) := by
  have hin := J_in h0 h1 hn
  refine W.zast hx hb he ((hK.1.2 2 _ rfl).1 n (fun j => .int (J (f j)))) (fun q => by cases q) (by show ¬ (J z < 0 ∨ (arrV _ _ _).slots.size ≤ _); rw [arrV_size]; exact hin) rfl rfl hdg fun H1 e z1 oq => ?_
  refine kk H1 _ ?_ ⟨z1, oq⟩ (fun q hq => ?_)
  · show H1[a]? = some (vp_cell _ _)
    rw [e, vp_cell_i, vp_cell_i, hx1, arrV_store]
    exact congrArg (fun g => some (arrV (G.2 2) n g)) (up_eq (fun y => Value.int (J y)) f h0 x _ (J_clamp h0 (by omega)))
  · rcases List.mem_append.mp hq with h | h
    · exact hL q h
    · rw [List.mem_singleton.mp h]; exact hA
theorem j_aast (hx : p.tables.exec = Jvm.exec) (hb : c.code = cc) (hK : KK G s) {k n ci v : Nat} {r : vw_C} {vs : List Value} {f : Int → Option Nat} (he : At G H a (eQ G k n f)) (ht : (tysG G.2)[k]? = some (G.2 k, .object r.1)) (hv : At G H v (eO ci vs)) (hc : vwCl[ci]? = some r) {z : Int} (h0 : 0 ≤ z) (h1 : z < (n : Int)) (hn : n < 2147483648) (hL : ∀ q ∈ locs, A q.base) (hA : A a) (hdg : decode cc pc = .ok (.aastore, 1)) (kk : ∀ (H1 : Heap) (locs1 : List Loc), At G H1 a (eQ G k n (uf f z (some v))) → Hx H H1 a → (∀ q ∈ locs1, A q.base) → W p l e R s m args below meth c H1 locs1 cells slots Q (F0 m (pc + 1) ls rest)) : W p l e R s m args below meth c H locs cells slots Q (F0 m pc ls (.ref v :: .int (J z) :: .ref a :: rest)) := by
  have hin := J_in h0 h1 hn
  have hlt : (J z).toNatClampNeg < n := Nat.not_le.mp fun q => hin (Or.inr q)
  have h00 : ¬ J z < 0 := fun q => hin (Or.inl q)
  obtain ⟨r', hr', cellV, g1, g2, g3, -⟩ := (show va_at G.1 vwCl (v, .inr (ci, vs)) H from hv)
  have hcls := (hK.1.1 ci r hc).2
  obtain ⟨kA, comp, k1, k2, k3, -⟩ := (hK.1.2 k _ ht).2
  have hcomp : comp = G.1.1 ci := Option.some.inj (k3.symm.trans hcls.1)
  subst hcomp
  obtain ⟨kC, hkC, -⟩ := hcls.2
  refine W.aast hx hb he (fun q h => by cases h) (fun h => by cases h) k1 k2 rfl hkC ⟨h00, by show _ < (arrV _ _ _).slots.size; rw [arrV_size]; exact hlt⟩ g1 (fun q h => by rw [g3] at h; cases h) (by rw [g2]; exact hkC) (by rw [g2]; exact va_assign hcls) rfl rfl hdg fun H1 e z1 oq => ?_
  refine kk H1 _ ?_ ⟨z1, oq⟩ (fun q hq => ?_)
  · show H1[a]? = some (vp_cell _ _)
    rw [e, vp_cell_q, vp_cell_q, arrV_store]
    exact congrArg (fun g => some (arrV (G.2 k) n g)) (up_eq (fun y => va_rf y) f h0 (some v) _ (J_clamp h0 (by omega)))
  · rcases List.mem_append.mp hq with h | h
    · exact hL q h
    · rw [List.mem_singleton.mp h]; exact hA
theorem j_aastN (hx : p.tables.exec = Jvm.exec) (hb : c.code = cc) (hK : KK G s) {k n : Nat} {C : String} {f : Int → Option Nat} (he : At G H a (eQ G k n f)) (ht : (tysG G.2)[k]? = some (G.2 k, .object C)) {z : Int} (h0 : 0 ≤ z) (h1 : z < (n : Int)) (hn : n < 2147483648) (hL : ∀ q ∈ locs, A q.base) (hA : A a) (hdg : decode cc pc = .ok (.aastore, 1)) (kk : ∀ (H1 : Heap) (locs1 : List Loc), At G H1 a (eQ G k n (uf f z none)) → Hx H H1 a → (∀ q ∈ locs1, A q.base) → W p l e R s m args below meth c H1 locs1 cells slots Q (F0 m (pc + 1) ls rest)) : W p l e R s m args below meth c H locs cells slots Q (F0 m pc ls (.null :: .int (J z) :: .ref a :: rest)) := by
  have hin := J_in h0 h1 hn
  refine va_WaastN (C := C) hx hb he ((hK.1.2 k _ ht).1 n (fun j => va_rf (f j))) (fun h => by cases h) (by show ¬ (J z < 0 ∨ (arrV _ _ _).slots.size ≤ _); rw [arrV_size]; exact hin) rfl rfl hdg fun H1 e z1 oq => ?_
  refine kk H1 _ ?_ ⟨z1, oq⟩ (fun q hq => ?_)
  · show H1[a]? = some (vp_cell _ _)
    rw [e, vp_cell_q, vp_cell_q, arrV_store]
    exact congrArg (fun g => some (arrV (G.2 k) n g)) (up_eq (fun y => va_rf y) f h0 none _ (J_clamp h0 (by omega)))
  · rcases List.mem_append.mp hq with h | h
    · exact hL q h
    · rw [List.mem_singleton.mp h]; exact hA
/-! new cells -/
theorem j_new (hx : p.tables.exec = Jvm.exec) (hb : c.code = cc) {own C : String} {T : u_T} {N ci index : Nat} {Ts : List Cond} (hts : ∀ w ∈ Ts, w.before args s = true) (hin : ∀ w ∈ u_ws C T N, w ∈ Ts) (ty : Nat → FieldType) (hty : ∀ k, k < N → parseFieldDescriptor (T k).2.2.1 = some (ty k)) (hown : s.vm.findClass own = some m.cls) (hcl : (Cond.classLink own index C).before args s = true) (hinst : (Cond.instantiable C N).before args s = true) (hini : (Cond.initialized C).before args s = true) (hK : KK G s) (hc : vwCl[ci]? = some (C, T, N)) {fs : List Value} (hfs : ∀ j, j < N → defaultValue (ty j) = vp_V fs j) (hcells : cells + 1 ≤ R.cells) (hslots : slots + N ≤ R.slots) (hdg : decode cc pc = .ok (.new index, 3))
    (kk : ∀ (q : Nat) (H1 : Heap), At G H1 q (eO ci fs) → Hn H H1 q → W p l e R s m args below meth c H1 locs (cells + 1) (slots + N) Q (F0 m (pc + 3) ls (.ref q :: rest))) : W p l e R s m args below meth c H locs cells slots Q (F0 m pc ls rest) := by
  have hKn := hK.1.1 ci _ hc
  refine W.newcK hx hb hown hcl hinst hini rfl hdg hcells hslots hKn.2.1 rfl fun H1 kC hkC e1 z1 o1 => ?_
  exact kk H.size H1 ⟨_, hc, (u_born ty hts hin hKn hkC e1 hty).to hfs⟩ ⟨rfl, z1, o1⟩
theorem j_newI (hx : p.tables.exec = Jvm.exec) (hb : c.code = cc) (harr : (Cond.arrayClass .int).before args s = true) (hK : KK G s) {z : Int} {n : Nat} (hz : z = (n : Int)) (hn : n * 4 ≤ 536870912) (hcells : cells + 1 ≤ R.cells) (hslots : slots + n ≤ R.slots) (hdg : decode cc pc = .ok (.newarray .int, 2))
    (kk : ∀ (q : Nat) (H1 : Heap), At G H1 q (eI G n (fun _ => 0)) → Hn H H1 q → W p l e R s m args below meth c H1 locs (cells + 1) (slots + n) Q (F0 m (pc + 2) ls (.ref q :: rest))) : W p l e R s m args below meth c H locs cells slots Q (F0 m pc ls (.int (J z) :: rest)) := by
  subst hz
  have h2 : n < 2 ^ 31 := by omega
  rw [J_nat]
  refine va_newaK (atype := .int) hx hb harr rfl hdg rfl (nI_pos h2) (nI_clamp h2) hn hcells hslots rfl fun H1 cA e1 z1 o1 hAr hNm => ?_
  have hc : cA = G.2 0 := Option.some.inj (hNm.symm.trans (hK.1.2 0 _ rfl).2)
  subst hc
  exact kk H.size H1 e1 ⟨rfl, z1, o1⟩
theorem j_newL (hx : p.tables.exec = Jvm.exec) (hb : c.code = cc) (harr : (Cond.arrayClass .long).before args s = true) (hK : KK G s) {z : Int} {n : Nat} (hz : z = (n : Int)) (hn : n * 8 ≤ 536870912) (hcells : cells + 1 ≤ R.cells) (hslots : slots + n ≤ R.slots) (hdg : decode cc pc = .ok (.newarray .long, 2))
    (kk : ∀ (q : Nat) (H1 : Heap), At G H1 q (eL G n (fun _ => 0)) → Hn H H1 q → W p l e R s m args below meth c H1 locs (cells + 1) (slots + n) Q (F0 m (pc + 2) ls (.ref q :: rest))) : W p l e R s m args below meth c H locs cells slots Q (F0 m pc ls (.int (J z) :: rest)) := by
  subst hz
  have h2 : n < 2 ^ 31 := by omega
  rw [J_nat]
  refine va_newaK (atype := .long) hx hb harr rfl hdg rfl (nI_pos h2) (nI_clamp h2) hn hcells hslots rfl fun H1 cA e1 z1 o1 hAr hNm => ?_
  have hc : cA = G.2 1 := Option.some.inj (hNm.symm.trans (hK.1.2 1 _ rfl).2)
  subst hc
  exact kk H.size H1 e1 ⟨rfl, z1, o1⟩
theorem j_newZ (hx : p.tables.exec = Jvm.exec) (hb : c.code = cc) (harr : (Cond.arrayClass .boolean).before args s = true) (hK : KK G s) {z : Int} {n : Nat} (hz : z = (n : Int)) (hn : n * 1 ≤ 536870912) (hcells : cells + 1 ≤ R.cells) (hslots : slots + n ≤ R.slots) (hdg : decode cc pc = .ok (.newarray .boolean, 2))
    (kk : ∀ (q : Nat) (H1 : Heap), At G H1 q (eZ G n (fun _ => 0)) → Hn H H1 q → W p l e R s m args below meth c H1 locs (cells + 1) (slots + n) Q (F0 m (pc + 2) ls (.ref q :: rest))) : W p l e R s m args below meth c H locs cells slots Q (F0 m pc ls (.int (J z) :: rest)) := by
  subst hz
  have h2 : n < 2 ^ 31 := by omega
  rw [J_nat]
  refine va_newaK (atype := .boolean) hx hb harr rfl hdg rfl (nI_pos h2) (nI_clamp h2) hn hcells hslots rfl fun H1 cA e1 z1 o1 hAr hNm => ?_
  have hc : cA = G.2 2 := Option.some.inj (hNm.symm.trans (hK.1.2 2 _ rfl).2)
  subst hc
  exact kk H.size H1 e1 ⟨rfl, z1, o1⟩
theorem j_newQ (hx : p.tables.exec = Jvm.exec) (hb : c.code = cc) {own C : String} {index k : Nat} (hown : s.vm.findClass own = some m.cls) (hclink : (Cond.classLink own index C).before args s = true) (hover : va_AO C s) (hK : KK G s) (ht : (tysG G.2)[k]? = some (G.2 k, .object C)) {z : Int} {n : Nat} (hz : z = (n : Int)) (hn : n * 4 ≤ 536870912) (hcells : cells + 1 ≤ R.cells) (hslots : slots + n ≤ R.slots) (hdg : decode cc pc = .ok (.anewarray index, 3))
    (kk : ∀ (q : Nat) (H1 : Heap), At G H1 q (eQ G k n (fun _ => none)) → Hn H H1 q → W p l e R s m args below meth c H1 locs (cells + 1) (slots + n) Q (F0 m (pc + 3) ls (.ref q :: rest))) : W p l e R s m args below meth c H locs cells slots Q (F0 m pc ls (.int (J z) :: rest)) := by
  subst hz
  have h2 : n < 2 ^ 31 := by omega
  have h3 : (nI n).toNatClampNeg = n := nI_clamp h2
  rw [J_nat]
  refine W.anew hx hb hown hclink (va_AO.use hover) rfl hdg rfl (nI_pos h2) (by rw [h3]; exact hn) hcells (by rw [h3]; exact hslots) fun cA kA comp f1 f2 f3 f4 => ?_
  rw [h3]
  obtain ⟨kA2, comp2, k1, k2, k3, k4⟩ := (hK.1.2 k _ ht).2
  have hc : cA = G.2 k := Option.some.inj (f1.symm.trans k4)
  subst hc
  refine kk H.size _ ?_ ⟨rfl, by rw [Array.size_push], fun q hq => by rw [Array.getElem?_push, if_neg (Nat.ne_of_lt hq)]⟩
  show _ = some (vp_cell _ _)
  rw [vp_cell_q, Array.getElem?_push_size, ← arrV_new]
  rfl
end JROWS
end
section
/-! contracts -/
def PC (G : GG) (As : List Value) (P : Heap → Prop) : Array Value → State → Prop := fun v U => v = As.toArray ∧ KK G U ∧ P U.heap
theorem PC.blind {G : GG} {As : List Value} {P : Heap → Prop} : FrameBlind (PC G As P) := fun a _ g mk h => ⟨h.1, h.2.1.c g mk a, h.2.2⟩
/-- a method that only reads: its answer -/
def MP (l : Launch) (G : GG) (y : MethodName) (ws : List Cond) (rm : Room) (As : List Value) (P : Heap → Prop) (v : Value) : Prop := Met l y ws rm (PC G As P) (k2_QcV v) 0 0 (fun _ => False)
/-- what a writing method leaves: its answer, the heap behind it -/
def QE (v : Option Value) (Post : Heap → Heap → Prop) : Array Value → State → Outcome → State → Prop := fun _ st o t => o = .returned v ∧ Post st.heap t.heap
def ME (l : Launch) (G : GG) (y : MethodName) (ws : List Cond) (rm : Room) (As : List Value) (P : Heap → Prop) (v : Option Value) (A : Nat → Prop) (Post : Heap → Heap → Prop) (mc ms : Nat) : Prop := Met l y ws rm (PC G As P) (QE v Post) mc ms A
theorem MP.of {l : Launch} {G : GG} {y : MethodName} {ws ws' : List Cond} {rm : Room} {As : List Value} {P : Heap → Prop} {v : Value} {cc : ByteArray} {maxL : Nat} {ret : Option FieldType} (hy : plainName y.cls = true) (hw : ws = Cond.code y cc maxL ret :: ws') (hml : (lg_sl As).length ≤ maxL)
    (body : ∀ (p : Program) (e : Env) (s : State) (m : MethodId) (below : List Frame) (meth : Method) (c : Code), p.tables.exec = Jvm.exec → c.code = cc → meth.sig.returnType = ret → c.maxLocals = maxL → s.vm.findClass y.cls = some m.cls → (∀ w ∈ ws, w.before As.toArray s = true) → meth.locks = false → KK G s → P s.heap → ∀ ls : Array Slot, lv_has ls maxL (lv_args 0 As) →
      W p l e (headSpec ws rm).room s m As.toArray below meth c s.heap [] 0 0 (MQ below (k2_QcV v) As.toArray s 0 0 (fun _ => False)) (F0 m 0 ls [])) : MP l G y ws rm As P v := by
  refine Met.ofW (cc := cc) (maxL := maxL) (ret := ret) hy hw ?_
  intro p e s m args below meth c s₁ B hml2 hv
  obtain ⟨rfl, hK, hP⟩ := hv
  have hl := lv_entry As (n := maxL) hml
  rw [lg_entry_eq]
  exact body p e s m below meth c B.exec B.bytes B.returns hml2 (findClass_of_methodNamed B.named) (atoms_spec (ws := ws) B.pre) B.notSynchronized hK hP _ hl
theorem ME.of {l : Launch} {G : GG} {y : MethodName} {ws ws' : List Cond} {rm : Room} {As : List Value} {P : Heap → Prop} {v : Option Value} {A : Nat → Prop} {Post : Heap → Heap → Prop} {mc ms : Nat} {cc : ByteArray} {maxL : Nat} {ret : Option FieldType} (hy : plainName y.cls = true) (hw : ws = Cond.code y cc maxL ret :: ws') (hml : (lg_sl As).length ≤ maxL)
    (body : ∀ (p : Program) (e : Env) (s : State) (m : MethodId) (below : List Frame) (meth : Method) (c : Code), p.tables.exec = Jvm.exec → c.code = cc → meth.sig.returnType = ret → c.maxLocals = maxL → s.vm.findClass y.cls = some m.cls → (∀ w ∈ ws, w.before As.toArray s = true) → meth.locks = false → meth.name = y.name → KK G s → P s.heap → ∀ ls : Array Slot, lv_has ls maxL (lv_args 0 As) →
      W p l e (headSpec ws rm).room s m As.toArray below meth c s.heap [] 0 0 (MQ below (QE v Post) As.toArray s mc ms A) (F0 m 0 ls [])) : ME l G y ws rm As P v A Post mc ms := by
  refine Met.ofW (cc := cc) (maxL := maxL) (ret := ret) hy hw ?_
  intro p e s m args below meth c s₁ B hml2 hv
  obtain ⟨rfl, hK, hP⟩ := hv
  have hl := lv_entry As (n := maxL) hml
  rw [lg_entry_eq]
  exact body p e s m below meth c B.exec B.bytes B.returns hml2 (findClass_of_methodNamed B.named) (atoms_spec (ws := ws) B.pre) B.notSynchronized (name_of_methodNamed B.named B.method).1 hK hP _ hl
theorem nz_pI (d : Prop) [Decidable d] : narrow .boolean (.int (J (pI d))) = .int (J (pI d)) := by
  by_cases h : d
  · rw [pI_t h]; rfl
  · rw [pI_f h]; rfl
section JCALLS
variable {p : Program} {l : Launch} {e : Env} {R : Room} {s : State} {m : MethodId} {args : Array Value} {below : List Frame} {meth : Method} {c : Code} {H : Heap} {locs : List Loc} {cells slots : Nat} {Q : State → Prop}
variable {cc bytes : ByteArray} {pc : Nat} {ls : Array Slot} {G : GG} {A : Nat → Prop}
/-! ends of a reading method -/
theorem r_i (hx : p.tables.exec = Jvm.exec) (hb : c.code = cc) (hr : meth.sig.returnType = some .int) (hlk : meth.locks = false) {v : Value} {r : Int32} (hv : Value.int r = v) (hdg : decode cc pc = .ok (.ireturn, 1)) : W p l e R s m args below meth c s.heap [] cells slots (MQ below (k2_QcV v) args s cells slots (fun _ => False)) (F0 m pc ls [.int r]) := W.iret hx hb hr (fun t ht _ => ⟨by rw [hv], ht⟩) (fun q h => absurd h List.not_mem_nil) hdg hlk
theorem r_z (hx : p.tables.exec = Jvm.exec) (hb : c.code = cc) (hr : meth.sig.returnType = some .boolean) (hlk : meth.locks = false) {v : Value} {r : Int32} (hn : narrow .boolean (.int r) = .int r) (hv : Value.int r = v) (hdg : decode cc pc = .ok (.ireturn, 1)) : W p l e R s m args below meth c s.heap [] cells slots (MQ below (k2_QcV v) args s cells slots (fun _ => False)) (F0 m pc ls [.int r]) := W.zret hx hb hr hn (fun t ht _ => ⟨by rw [hv], ht⟩) (fun q h => absurd h List.not_mem_nil) hdg hlk
theorem r_l (hx : p.tables.exec = Jvm.exec) (hb : c.code = cc) (hr : meth.sig.returnType = some .long) (hlk : meth.locks = false) {v : Value} {r : Int64} (hv : Value.long r = v) (hdg : decode cc pc = .ok (.lreturn, 1)) : W p l e R s m args below meth c s.heap [] cells slots (MQ below (k2_QcV v) args s cells slots (fun _ => False)) (F0 m pc ls [.long r]) := W.lret hx hb hr (fun t ht _ => ⟨by rw [hv], ht⟩) (fun q h => absurd h List.not_mem_nil) hdg hlk
theorem r_a (hx : p.tables.exec = Jvm.exec) (hb : c.code = cc) {C : String} (hr : meth.sig.returnType = some (.object C)) (hlk : meth.locks = false) {v : Value} {o : Option Nat} {r : Value} (h1 : r = va_rf o) (hv : va_rf o = v) (hdg : decode cc pc = .ok (.areturn, 1)) : W p l e R s m args below meth c s.heap [] cells slots (MQ below (k2_QcV v) args s cells slots (fun _ => False)) (F0 m pc ls [r]) := by
  subst h1
  exact W.aret hx hb hr (Or.inl ⟨C, rfl⟩) (va_rf_or o) (fun t ht _ => ⟨by rw [hv], ht⟩) (fun q h => absurd h List.not_mem_nil) hdg hlk
/-! ends of a writing method -/
theorem r_iE (hx : p.tables.exec = Jvm.exec) (hb : c.code = cc) (hr : meth.sig.returnType = some .int) (hlk : meth.locks = false) {v : Option Value} {r : Int32} {Post : Heap → Heap → Prop} {mc ms : Nat} (h1 : cells ≤ mc) (h2 : slots ≤ ms) (hv : some (Value.int r) = v) (hL : ∀ q ∈ locs, A q.base) (hp : Post s.heap H) (hdg : decode cc pc = .ok (.ireturn, 1)) : W p l e R s m args below meth c H locs cells slots (MQ below (QE v Post) args s mc ms A) (F0 m pc ls [.int r]) := W.widen h1 h2 (W.iret hx hb hr (fun t ht _ => ⟨by rw [hv], by rw [ht]; exact hp⟩) hL hdg hlk)
theorem r_vE (hx : p.tables.exec = Jvm.exec) (hb : c.code = cc) (hr : meth.sig.returnType = none) (hlk : meth.locks = false) {v : Option Value} {Post : Heap → Heap → Prop} {mc ms : Nat} (h1 : cells ≤ mc) (h2 : slots ≤ ms) (hv : none = v) (hL : ∀ q ∈ locs, A q.base) (hp : Post s.heap H) (hdg : decode cc pc = .ok (.return_, 1)) : W p l e R s m args below meth c H locs cells slots (MQ below (QE v Post) args s mc ms A) (F0 m pc ls []) := W.widen h1 h2 (W.vret hx hb hr (fun t ht _ => ⟨by rw [hv], by rw [ht]; exact hp⟩) hL hdg hlk)
theorem r_aE (hx : p.tables.exec = Jvm.exec) (hb : c.code = cc) {C : String} (hr : meth.sig.returnType = some (.object C)) (hlk : meth.locks = false) {v : Option Value} {q : Nat} {Post : Heap → Heap → Prop} {mc ms : Nat} (h1 : cells ≤ mc) (h2 : slots ≤ ms) (hv : some (Value.ref q) = v) (hL : ∀ q ∈ locs, A q.base) (hp : Post s.heap H) (hdg : decode cc pc = .ok (.areturn, 1)) : W p l e R s m args below meth c H locs cells slots (MQ below (QE v Post) args s mc ms A) (F0 m pc ls [.ref q]) := W.widen h1 h2 (W.aret hx hb hr (Or.inl ⟨C, rfl⟩) (Or.inr ⟨q, rfl⟩) (fun t ht _ => ⟨by rw [hv], by rw [ht]; exact hp⟩) hL hdg hlk)
/-! calls of reading methods -/
variable {y : MethodName} {maxL nL n index : Nat} {ret : Option FieldType} {ws : List Cond} {rm : Room} {Ts : List Cond} {own C : String} {b : Nat} {As rest st : List Value} {P : Heap → Prop} {v : Value}
theorem k_V {ci : Nat} {fs : List Value} {T : u_T} {N : Nat} (hx : p.tables.exec = Jvm.exec) (hb : c.code = cc) (hml : c.maxLocals = nL) (hown : s.vm.findClass own = some m.cls) (hts : ∀ w ∈ Ts, w.before args s = true) (hK : KK G s) (hl : ls.size = nL) (hM : MP l G y ws rm (.ref b :: As) P v) (cw : CallW R s args own C index y bytes maxL ret ws rm 0 0 n) (hr : At G H b (eO ci fs)) (hc : vwCl[ci]? = some (C, T, N)) (hP : P H) (hn : As.length = n) (hst : st = As.reverse ++ .ref b :: rest) (hW : (rest.map fun v => v.category).sum ≤ 8) (hdg : decode cc pc = .ok (.invokevirtual index, 3)) (hf : cells ≤ R.cells ∧ slots ≤ R.slots)
    (kk : W p l e R s m args below meth c H locs cells slots Q (F0 m (pc + 3) ls (v :: rest))) : W p l e R s m args below meth c H locs cells slots Q (F0 m pc ls st) :=
  W.callV (W.runV ⟨hx, hb, hml, hown, hts⟩ hM cw ⟨PC.blind, va_recv hK.1 hr.P hc (q0 := 0) rfl, fun U hU hW => ⟨rfl, hK.w hW, by rw [hU]; exact hP⟩⟩ rfl hn hl hst (lv_room hW) hdg hf) kk
theorem k_S (hx : p.tables.exec = Jvm.exec) (hb : c.code = cc) (hml : c.maxLocals = nL) (hown : s.vm.findClass own = some m.cls) (hts : ∀ w ∈ Ts, w.before args s = true) (hK : KK G s) (hl : ls.size = nL) (hM : MP l G y ws rm As P v) (cw : CallB R s args own index y bytes maxL ret ws rm 0 0 n ∧ (Cond.static y).before args s = true) (hP : P H) (hn : As.length = n) (hst : st = As.reverse ++ rest) (hW : (rest.map fun v => v.category).sum ≤ 8) (hdg : decode cc pc = .ok (.invokestatic index, 3)) (hf : cells ≤ R.cells ∧ slots ≤ R.slots)
    (kk : W p l e R s m args below meth c H locs cells slots Q (F0 m (pc + 3) ls (v :: rest))) : W p l e R s m args below meth c H locs cells slots Q (F0 m pc ls st) :=
  W.callV (W.runS ⟨hx, hb, hml, hown, hts⟩ hM cw ⟨PC.blind, fun U hU hW => ⟨rfl, hK.w hW, by rw [hU]; exact hP⟩⟩ rfl hn hl hst (lv_room hW) hdg hf) kk
theorem k_pure {mc ms : Nat} {a : Array Value} (hr : va_Run p l e R s m args below meth c H locs cells slots 0 0 (F0 m pc ls st) rest (k2_QcV v a) (fun _ => False)) (kk : W p l e R s m args below meth c H locs cells slots Q (F0 m (pc + 3) ls (v :: rest))) : W p l e R s m args below meth c H locs cells slots Q (F0 m pc ls st) := by
  intro T hT X
  obtain ⟨v, st₀, t, T', L, h0, X', hL, e1, e2, ⟨hv, hh⟩, q⟩ := hr T hT X
  cases hv
  obtain ⟨t2, a1, b1⟩ := kk T' (by rw [e1, hh, h0]) (Stand.forget X' (fun q h => (hL q h).elim))
  exact ⟨t2, q t2 a1, b1⟩
theorem k_SN {host : String} (hx : p.tables.exec = Jvm.exec) (hb : c.code = cc) (hml : c.maxLocals = nL) (hown : s.vm.findClass own = some m.cls) (hts : ∀ w ∈ Ts, w.before args s = true) (hK : KK G s) (hl : ls.size = nL) (hM : MP l G y ws rm As P v) (cw : va_CN R s args own index y host bytes maxL ret ws rm 0 0 n) (hstat : (Cond.static y).before args s = true) (hP : P H) (hn : As.length = n) (hst : st = As.reverse ++ rest) (hW : (rest.map fun v => v.category).sum ≤ 8) (hdg : decode cc pc = .ok (.invokestatic index, 3)) (hf : cells ≤ R.cells ∧ slots ≤ R.slots)
    (kk : W p l e R s m args below meth c H locs cells slots Q (F0 m (pc + 3) ls (v :: rest))) : W p l e R s m args below meth c H locs cells slots Q (F0 m pc ls st) :=
  k_pure (mc := 0) (ms := 0) (va_runSN ⟨hx, hb, hml, hown, hts⟩ hM ⟨cw, hstat, trivial⟩ ⟨PC.blind, fun U hU hW => ⟨rfl, hK.w hW, by rw [hU]; exact hP⟩⟩ rfl hn hl hst (lv_room hW) hdg hf) kk
/-! calls of writing methods -/
variable {ve : Option Value} {Post : Heap → Heap → Prop} {mc ms : Nat} {free : Nat → Prop}
theorem k_eff {a : Array Value} (hr : va_Run p l e R s m args below meth c H locs cells slots mc ms (F0 m pc ls st) rest (QE ve Post a) free) (hL : ∀ q ∈ locs, A q.base) (hA : ∀ q, free q → A q)
    (kk : ∀ (H1 : Heap) (locs1 : List Loc), Post H H1 → (∀ q ∈ locs1, A q.base) → W p l e R s m args below meth c H1 locs1 (cells + mc) (slots + ms) Q (F0 m (pc + 3) ls (ve.toList ++ rest))) : W p l e R s m args below meth c H locs cells slots Q (F0 m pc ls st) := by
  intro T hT X
  obtain ⟨v, st₀, t, T', L, h0, X', hL2, e1, e2, ⟨hv, hp⟩, q⟩ := hr T hT X
  cases hv
  rw [h0] at hp
  obtain ⟨t2, a1, b1⟩ := kk T'.heap (locs ++ L) (by rw [e1]; exact hp) (fun q hq => by
    rcases List.mem_append.mp hq with h | h
    · exact hL q h
    · exact hA _ (hL2 q h)) T' rfl X'
  exact ⟨t2, q t2 a1, b1⟩
theorem e_V {ci : Nat} {fs : List Value} {T : u_T} {N : Nat} (hx : p.tables.exec = Jvm.exec) (hb : c.code = cc) (hml : c.maxLocals = nL) (hown : s.vm.findClass own = some m.cls) (hts : ∀ w ∈ Ts, w.before args s = true) (hK : KK G s) (hl : ls.size = nL) (hM : ME l G y ws rm (.ref b :: As) P ve free Post mc ms) (cw : CallW R s args own C index y bytes maxL ret ws rm mc ms n) (hr : At G H b (eO ci fs)) (hc : vwCl[ci]? = some (C, T, N)) (hP : P H) (hn : As.length = n) (hst : st = As.reverse ++ .ref b :: rest) (hW : (rest.map fun v => v.category).sum ≤ 8) (hdg : decode cc pc = .ok (.invokevirtual index, 3)) (hf : cells + mc ≤ R.cells ∧ slots + ms ≤ R.slots) (hL : ∀ q ∈ locs, A q.base) (hA : ∀ q, free q → A q)
    (kk : ∀ (H1 : Heap) (locs1 : List Loc), Post H H1 → (∀ q ∈ locs1, A q.base) → W p l e R s m args below meth c H1 locs1 (cells + mc) (slots + ms) Q (F0 m (pc + 3) ls (ve.toList ++ rest))) : W p l e R s m args below meth c H locs cells slots Q (F0 m pc ls st) :=
  k_eff (va_runV ⟨hx, hb, hml, hown, hts⟩ hM cw ⟨PC.blind, va_recv hK.1 hr.P hc (q0 := 0) rfl, fun U hU hW => ⟨rfl, hK.w hW, by rw [hU]; exact hP⟩⟩ rfl hn hl hst (lv_room hW) hdg hf) hL hA kk
theorem e_S (hx : p.tables.exec = Jvm.exec) (hb : c.code = cc) (hml : c.maxLocals = nL) (hown : s.vm.findClass own = some m.cls) (hts : ∀ w ∈ Ts, w.before args s = true) (hK : KK G s) (hl : ls.size = nL) (hM : ME l G y ws rm As P ve free Post mc ms) (cw : CallB R s args own index y bytes maxL ret ws rm mc ms n ∧ (Cond.static y).before args s = true) (hP : P H) (hn : As.length = n) (hst : st = As.reverse ++ rest) (hW : (rest.map fun v => v.category).sum ≤ 8) (hdg : decode cc pc = .ok (.invokestatic index, 3)) (hf : cells + mc ≤ R.cells ∧ slots + ms ≤ R.slots) (hL : ∀ q ∈ locs, A q.base) (hA : ∀ q, free q → A q)
    (kk : ∀ (H1 : Heap) (locs1 : List Loc), Post H H1 → (∀ q ∈ locs1, A q.base) → W p l e R s m args below meth c H1 locs1 (cells + mc) (slots + ms) Q (F0 m (pc + 3) ls (ve.toList ++ rest))) : W p l e R s m args below meth c H locs cells slots Q (F0 m pc ls st) :=
  k_eff (va_runS ⟨hx, hb, hml, hown, hts⟩ hM cw ⟨PC.blind, fun U hU hW => ⟨rfl, hK.w hW, by rw [hU]; exact hP⟩⟩ rfl hn hl hst (lv_room hW) hdg hf) hL hA kk
theorem e_I (hx : p.tables.exec = Jvm.exec) (hb : c.code = cc) (hml : c.maxLocals = nL) (hown : s.vm.findClass own = some m.cls) (hts : ∀ w ∈ Ts, w.before args s = true) (hK : KK G s) (hl : ls.size = nL) (hM : ME l G y ws rm (.ref b :: As) P ve free Post mc ms) (cw : CallB R s args own index y bytes maxL none ws rm mc ms n ∧ y.name = "<init>" ∧ (Cond.instanceMethod y).before args s = true) (hP : P H) (hn : As.length = n) (hst : st = As.reverse ++ .ref b :: rest) (hW : (rest.map fun v => v.category).sum ≤ 8) (hdg : decode cc pc = .ok (.invokespecial index, 3)) (hf : cells + mc ≤ R.cells ∧ slots + ms ≤ R.slots) (hL : ∀ q ∈ locs, A q.base) (hA : ∀ q, free q → A q)
    (kk : ∀ (H1 : Heap) (locs1 : List Loc), Post H H1 → (∀ q ∈ locs1, A q.base) → W p l e R s m args below meth c H1 locs1 (cells + mc) (slots + ms) Q (F0 m (pc + 3) ls (ve.toList ++ rest))) : W p l e R s m args below meth c H locs cells slots Q (F0 m pc ls st) :=
  k_eff (va_runI ⟨hx, hb, hml, hown, hts⟩ hM cw ⟨PC.blind, fun U hU hW => ⟨rfl, hK.w hW, by rw [hU]; exact hP⟩⟩ rfl hn hl hst (lv_room hW) hdg hf) hL hA kk
theorem j_max (hx : p.tables.exec = Jvm.exec) (hb : c.code = cc) (hml : c.maxLocals = ls.size) {own : String} {index : Nat} (hown : s.vm.findClass own = some m.cls) (hlink : (Cond.methodLink own index Lib.Math.max.name).before args s = true) (hstat : (Cond.static Lib.Math.max.name).before args s = true) (hini : (Cond.initialized "java/lang/Math").before args s = true) (hcode : (Cond.code Lib.Math.max.name Lib.Math.max.code 2 (some .int)).before args s = true) (hframes : 1 ≤ R.frames) (hlocals : (rest.map fun v => v.category).sum + 13 ≤ R.locals) (hc : cells ≤ R.cells) (hs : slots ≤ R.slots) {x y : Int} (h1 : -2147483648 ≤ x) (h2 : x < 2147483648) (h3 : -2147483648 ≤ y) (h4 : y < 2147483648) (hdg : decode cc pc = .ok (.invokestatic index, 3))
    (kk : W p l e R s m args below meth c H locs cells slots Q (F0 m (pc + 3) ls (.int (J (max x y)) :: rest))) : W p l e R s m args below meth c H locs cells slots Q (F0 m pc ls (.int (J y) :: .int (J x) :: rest)) := by
  refine va_mmax hx hb hml hown hlink hstat hini hcode hframes hlocals hc hs hdg ?_
  have q : (if J x < J y then J y else J x) = J (max x y) := by
    by_cases h : x < y
    · rw [if_pos ((J_lt h1 h2 h3 h4).mpr h), Int.max_eq_right (by omega)]
    · rw [if_neg (fun z => h ((J_lt h1 h2 h3 h4).mp z)), Int.max_eq_left (by omega)]
  rw [q]; exact kk
end JCALLS
end
section
/-! loops as folds over 0, 1, .. -/
def lo {α : Type} (g : α → Int → α) (a : α) (i : Int) : α := Nat.rec (motive := fun _ => α) a (fun k r => g r (k : Int)) i.toNat
theorem lo_0 {α : Type} (g : α → Int → α) (a : α) : lo g a 0 = a := rfl
theorem lo_s {α : Type} (g : α → Int → α) (a : α) {i : Int} (h : 0 ≤ i) : lo g a (i + 1) = g (lo g a i) i := by
  obtain ⟨k, rfl⟩ : ∃ k : Nat, i = (k : Int) := ⟨i.toNat, by omega⟩
  have e : ((k : Int) + 1).toNat = k + 1 := by omega
  unfold lo
  rw [e]
  rfl
theorem lo_congr {α : Type} {g g' : α → Int → α} (a : α) {i : Int} (hi : 0 ≤ i) (h : ∀ (x : α) (j : Int), 0 ≤ j → j < i → g x j = g' x j) : lo g a i = lo g' a i := by
  obtain ⟨k, rfl⟩ : ∃ k : Nat, i = (k : Int) := ⟨i.toNat, by omega⟩
  clear hi
  induction k with
  | zero => rfl
  | succ k ih =>
    have e : ((k + 1 : Nat) : Int) = (k : Int) + 1 := by omega
    rw [e, lo_s _ _ (by omega), lo_s _ _ (by omega), ih (fun x j h1 h2 => h x j h1 (by omega)), h _ _ (by omega) (by omega)]
/-- the same step from here on changes nothing -/
theorem lo_stay {α : Type} {g : α → Int → α} (a : α) {i j : Int} (hi : 0 ≤ i) (hij : i ≤ j) (h : ∀ (x : α) (k : Int), i ≤ k → k < j → g x k = x) : lo g a j = lo g a i := by
  obtain ⟨k, rfl⟩ : ∃ k : Nat, j = i + (k : Int) := ⟨(j - i).toNat, by omega⟩
  induction k with
  | zero => rw [show i + ((0 : Nat) : Int) = i by omega]
  | succ k ih =>
    have e : i + ((k + 1 : Nat) : Int) = i + (k : Int) + 1 := by omega
    rw [e, lo_s _ _ (by omega), h _ _ (by omega) (by omega)]
    exact ih (by omega) (fun x q h1 h2 => h x q h1 (by omega))
theorem lo_inv {α : Type} {g : α → Int → α} {a : α} {i : Int} (p : α → Int → Prop) (hi : 0 ≤ i) (h0 : p a 0) (hs : ∀ (x : α) (j : Int), 0 ≤ j → j < i → p x j → p (g x j) (j + 1)) : p (lo g a i) i := by
  obtain ⟨k, rfl⟩ : ∃ k : Nat, i = (k : Int) := ⟨i.toNat, by omega⟩
  clear hi
  induction k with
  | zero => exact h0
  | succ k ih =>
    have e : ((k + 1 : Nat) : Int) = (k : Int) + 1 := by omega
    rw [e, lo_s _ _ (by omega)]
    exact hs _ _ (by omega) (by omega) (ih (fun x j h1 h2 => hs x j h1 (by omega)))
/-- through a list's places, and what lies behind its end -/
def ls_ {α β : Type} (L : List β) (g : α → β → α) : α → Int → α := fun x i => match L[i.toNat]? with
  | none => x
  | some e => g x e
theorem lo_list {α β : Type} (g : α → β → α) : ∀ (L : List β) (a : α) (N : Nat), L.length ≤ N → lo (ls_ L g) a (N : Int) = L.foldl g a := by
  intro L a N h
  have h1 : lo (ls_ L g) a (N : Int) = lo (ls_ L g) a (L.length : Int) := lo_stay a (by omega) (by omega) (fun x k h1 h2 => by
    unfold ls_
    rw [List.getElem?_eq_none (by omega)])
  rw [h1]
  have h2 : ∀ k : Nat, k ≤ L.length → lo (ls_ L g) a (k : Int) = (L.take k).foldl g a := by
    intro k
    induction k with
    | zero => intro _; rfl
    | succ k ih =>
      intro hk
      have e : ((k + 1 : Nat) : Int) = (k : Int) + 1 := by omega
      have e2 : ((k : Int)).toNat = k := by omega
      rw [e, lo_s _ _ (by omega), ih (by omega)]
      unfold ls_
      rw [e2, List.getElem?_eq_getElem (by omega), List.take_add_one, List.getElem?_eq_getElem (by omega), List.foldl_append]
      rfl
  rw [h2 L.length (Nat.le_refl _), List.take_length]
/-! an event as it lies in the heap: its address, its number, day, kind, value -/
abbrev EvT : Type := Nat × Int × Int × Int × Int
abbrev eAd (e : EvT) : Nat := e.1
abbrev eNo (e : EvT) : Int := e.2.1
abbrev eDy (e : EvT) : Int := e.2.2.1
abbrev eKi (e : EvT) : Int := e.2.2.2.1
abbrev eVa (e : EvT) : Int := e.2.2.2.2
/-- what an event may be -/
def eOk (e : EvT) : Prop := (0 ≤ eNo e ∧ eNo e < 12) ∧ (0 ≤ eDy e ∧ eDy e ≤ 3649) ∧ ((eKi e = 0 ∧ 1 ≤ eVa e ∧ eVa e ≤ 500) ∨ (eKi e = 1 ∧ 0 ≤ eVa e ∧ eVa e ≤ 3) ∨ (eKi e = 2 ∧ 1 ≤ eVa e ∧ eVa e ≤ 900))
/-- the references of a row: of the first n places -/
def qN (n : Int) (ad : Int → Nat) : Int → Option Nat := fun j => if 0 ≤ j ∧ j < n then some (ad j) else none
def qL (L : List EvT) : Int → Option Nat := fun j => if 0 ≤ j then (L[j.toNat]?).map eAd else none
theorem qN_s {n z : Int} {ad : Int → Nat} (h : 0 ≤ z ∧ z < n) : qN n ad z = some (ad z) := if_pos h
theorem qN_n {n z : Int} {ad : Int → Nat} (h : ¬ (0 ≤ z ∧ z < n)) : qN n ad z = none := if_neg h
/-! pictures of the heap -/
def eEv (e : EvT) : va_E := eO 0 [.int (J (eNo e)), .int (J (eDy e)), .int (J (eKi e)), .int (J (eVa e))]
/-- a house's events: the object, its row, the events by day -/
def Evs (G : GG) (H : Heap) (q b : Nat) (L : List EvT) : Prop := At G H q (eO 1 [.ref b, .int (J (L.length : Int))]) ∧ At G H b (eQ G 3 12 (qL L)) ∧ L.length ≤ 12 ∧ (∀ e ∈ L, At G H (eAd e) (eEv e)) ∧ ∀ e ∈ L, eOk e
def lat (L : List EvT) (k d : Int) : Option EvT := L.foldl (fun x e => if eKi e = k ∧ eDy e ≤ d then some e else x) none
def ctd (L : List EvT) (f t w : Int) : Int := L.foldl (fun x e => if eKi e = 2 ∧ f ≤ eDy e ∧ eDy e ≤ t then x * (1000 - eVa e) / 1000 else x) w
def snr (ch d nx : Int) : Int := if d < ch ∧ ch < nx then ch else nx
def nxE (L : List EvT) (d nx : Int) : Int := L.foldl (fun x e => snr (eDy e + 90) d (snr (eDy e) d x)) nx
def rlv (c : Int) : Int := if c ≤ 1200 then 0 else if c ≤ 1500 then 5 * (c - 1200) else c
theorem qL_s {L : List EvT} {z : Int} {e : EvT} (h0 : 0 ≤ z) (h : L[z.toNat]? = some e) : qL L z = some (eAd e) := by unfold qL; rw [if_pos h0, h]; rfl
theorem qL_n {L : List EvT} {z : Int} (h0 : 0 ≤ z) (h : L[z.toNat]? = none) : qL L z = none := by unfold qL; rw [if_pos h0, h]; rfl
end
section
theorem va_rf_cat (o : Option Nat) : (va_rf o).category = 1 := by cases o <;> rfl
section JROWS2
variable {p : Program} {l : Launch} {e : Env} {R : Room} {s : State} {m : MethodId} {args : Array Value} {below : List Frame} {meth : Method} {c : Code} {H : Heap} {locs : List Loc} {cells slots : Nat} {Q : State → Prop}
variable {cc : ByteArray} {pc : Nat} {ls : Array Slot} {rest : List Value}
/-! a reference or null, loaded and stored -/
theorem j_aload_nQ (hx : p.tables.exec = Jvm.exec) (hb : c.code = cc) {k : Fin 4} {i : Nat} {o : Option Nat} (hdg : decode cc pc = .ok (.aload_n k, 1)) (hi : (k : Nat) = i) (hl : ls[i]? = some (.val (va_rf o))) (kk : W p l e R s m args below meth c H locs cells slots Q (F0 m (pc + 1) ls (va_rf o :: rest))) : W p l e R s m args below meth c H locs cells slots Q (F0 m pc ls rest) := by
  cases o with
  | none => exact lv_aload_nN hx hb hdg hi hl kk
  | some a => exact lv_aload_n hx hb hdg hi hl kk
theorem j_aloadQ (hx : p.tables.exec = Jvm.exec) (hb : c.code = cc) {i : Nat} {o : Option Nat} (hdg : decode cc pc = .ok (.aload i, 2)) (hl : ls[i]? = some (.val (va_rf o))) (kk : W p l e R s m args below meth c H locs cells slots Q (F0 m (pc + 2) ls (va_rf o :: rest))) : W p l e R s m args below meth c H locs cells slots Q (F0 m pc ls rest) := by
  cases o with
  | none => exact lv_aloadN hx hb hdg hl kk
  | some a => exact lv_aload hx hb hdg hl kk
theorem j_astore_nQ (hx : p.tables.exec = Jvm.exec) (hb : c.code = cc) {k : Fin 4} {i nL : Nat} {o : Option Nat} {lv lv' : List (Nat × Value)} (hdg : decode cc pc = .ok (.astore_n k, 1)) (hi : (k : Nat) = i) (h : lv_has ls nL lv) (hn : i < nL) (hl : (i, va_rf o) :: lv.filter (fun q => !(q.1 == i) && !(q.1 + 1 == i && q.2.category == 2)) = lv') (kk : ∀ ls' : Array Slot, lv_has ls' nL lv' → W p l e R s m args below meth c H locs cells slots Q (F0 m (pc + 1) ls' rest)) : W p l e R s m args below meth c H locs cells slots Q (F0 m pc ls (va_rf o :: rest)) := by
  cases o with
  | none => exact lv_astore_nN hx hb hdg hi h hn hl kk
  | some a => exact lv_astore_n hx hb hdg hi h hn hl kk
theorem j_astoreQ (hx : p.tables.exec = Jvm.exec) (hb : c.code = cc) {i nL : Nat} {o : Option Nat} {lv lv' : List (Nat × Value)} (hdg : decode cc pc = .ok (.astore i, 2)) (h : lv_has ls nL lv) (hn : i < nL) (hl : (i, va_rf o) :: lv.filter (fun q => !(q.1 == i) && !(q.1 + 1 == i && q.2.category == 2)) = lv') (kk : ∀ ls' : Array Slot, lv_has ls' nL lv' → W p l e R s m args below meth c H locs cells slots Q (F0 m (pc + 2) ls' rest)) : W p l e R s m args below meth c H locs cells slots Q (F0 m pc ls (va_rf o :: rest)) := by
  cases o with
  | none => exact lv_astoreN hx hb hdg h hn hl kk
  | some a => exact lv_astore hx hb hdg h hn hl kk
end JROWS2
/-! the state, as the rows of the reference hold it: 0 how many houses, lists; by house 1 ward, 2 kind, 3 street, 4 size, 5 rent, 6 how many events; by 12 h + e 7 day, 8 kind, 9 value; 10 a list's day; by 18 l + 6 k + s 11 above, 12 below; by year 13 struck, 14 poundage, 15 needs; by 10 h + y 16 billed, 17 paid -/
abbrev St : Type := Nat → Int → Int
abbrev asked (V : St) (k s out h : Int) : Prop := h ≠ out ∧ V 2 h = k ∧ (s = -1 ∨ V 3 h = s) ∧ 0 < V 5 h
abbrev less (V : St) (a b : Int) : Prop := V 5 a * V 4 b < V 5 b * V 4 a ∨ (V 5 a * V 4 b = V 5 b * V 4 a ∧ a < b)
def among (V : St) (k s out : Int) : Int := lo (fun x h => x + pI (asked V k s out h)) 0 (V 0 0)
def rank (V : St) (k s out h : Int) : Int := lo (fun x o => x + pI (asked V k s out o ∧ less V o h)) 0 (V 0 0)
def mid (V : St) (k s out r : Int) : Option Int := lo (fun x i => if x = none ∧ asked V k s out i ∧ rank V k s out i = r then some i else x) none (V 0 0)
/-- what every state keeps -/
def Iv (V : St) : Prop :=
  ((0 ≤ V 0 0 ∧ V 0 0 ≤ 40) ∧ (0 ≤ V 0 1 ∧ V 0 1 ≤ 10)) ∧
  (∀ h, 0 ≤ h → h < V 0 0 → (0 ≤ V 1 h ∧ V 1 h ≤ 3) ∧ (0 ≤ V 2 h ∧ V 2 h ≤ 2) ∧ (0 ≤ V 3 h ∧ V 3 h ≤ 5) ∧ (1 ≤ V 4 h ∧ V 4 h ≤ 500) ∧ (0 ≤ V 5 h ∧ V 5 h ≤ 100000) ∧ (0 ≤ V 6 h ∧ V 6 h ≤ 12)) ∧
  (∀ h e, 0 ≤ h → h < V 0 0 → 0 ≤ e → e < V 6 h → (0 ≤ V 7 (12 * h + e) ∧ V 7 (12 * h + e) ≤ 3649) ∧ ((V 8 (12 * h + e) = 0 ∧ 1 ≤ V 9 (12 * h + e) ∧ V 9 (12 * h + e) ≤ 500) ∨ (V 8 (12 * h + e) = 1 ∧ 0 ≤ V 9 (12 * h + e) ∧ V 9 (12 * h + e) ≤ 3) ∨ (V 8 (12 * h + e) = 2 ∧ 1 ≤ V 9 (12 * h + e) ∧ V 9 (12 * h + e) ≤ 900))) ∧
  (∀ i, 0 ≤ i → i < V 0 1 → 0 ≤ V 10 i ∧ V 10 i ≤ 3649) ∧
  (∀ i u, 0 ≤ i → i < V 0 1 → 0 ≤ u → u < 18 → (1 ≤ V 11 (18 * i + u) ∧ V 11 (18 * i + u) ≤ 100000) ∧ (1 ≤ V 12 (18 * i + u) ∧ V 12 (18 * i + u) ≤ 500)) ∧
  (∀ y, 0 ≤ y → y < 10 → (V 13 y = 0 ∨ V 13 y = 1) ∧ (0 ≤ V 14 y ∧ V 14 y ≤ 3000) ∧ (0 ≤ V 15 y ∧ V 15 y ≤ 100000000)) ∧
  (∀ h y, 0 ≤ h → h < 40 → 0 ≤ y → y < 10 → (V 16 (10 * h + y) = -4 ∨ (0 ≤ V 16 (10 * h + y) ∧ V 16 (10 * h + y) ≤ 200000000)) ∧ (0 ≤ V 17 (10 * h + y) ∧ V 17 (10 * h + y) ≤ 10000000))
theorem Iv.n {V : St} (h : Iv V) : 0 ≤ V 0 0 ∧ V 0 0 ≤ 40 := h.1.1
theorem Iv.l {V : St} (h : Iv V) : 0 ≤ V 0 1 ∧ V 0 1 ≤ 10 := h.1.2
theorem Iv.h {V : St} (h : Iv V) {i : Int} (h0 : 0 ≤ i) (h1 : i < V 0 0) : (0 ≤ V 1 i ∧ V 1 i ≤ 3) ∧ (0 ≤ V 2 i ∧ V 2 i ≤ 2) ∧ (0 ≤ V 3 i ∧ V 3 i ≤ 5) ∧ (1 ≤ V 4 i ∧ V 4 i ≤ 500) ∧ (0 ≤ V 5 i ∧ V 5 i ≤ 100000) ∧ (0 ≤ V 6 i ∧ V 6 i ≤ 12) := h.2.1 i h0 h1
/-! the class's houses and town -/
def eHo (V : St) (ea : Int → Nat) (i : Int) : va_E := eO 2 [.int (J i), .int (J (V 1 i)), .int (J (V 2 i)), .int (J (V 3 i)), .int (J (V 4 i)), .ref (ea i), .int (J (V 5 i))]
def Tn (G : GG) (H : Heap) (tw hs : Nat) (ha ea : Int → Nat) (V : St) : Prop := Iv V ∧ At G H tw (eO 5 [.ref hs, .int (J (V 0 0))]) ∧ At G H hs (eQ G 4 40 (qN (V 0 0) ha)) ∧ ∀ i, 0 ≤ i → i < V 0 0 → At G H (ha i) (eHo V ea i)
def gLat (k d : Int) : Option EvT → EvT → Option EvT := fun x e => if eKi e = k ∧ eDy e ≤ d then some e else x
def gCtd (f t : Int) : Int → EvT → Int := fun x e => if eKi e = 2 ∧ f ≤ eDy e ∧ eDy e ≤ t then x * (1000 - eVa e) / 1000 else x
def gNx (d : Int) : Int → EvT → Int := fun x e => snr (eDy e + 90) d (snr (eDy e) d x)
theorem lat_lo {L : List EvT} {k d i : Int} (h : L.length ≤ 12) (hi : i = 12) : lo (ls_ L (gLat k d)) none i = lat L k d := by subst hi; exact lo_list (gLat k d) L none 12 h
theorem ctd_lo {L : List EvT} {f t w i : Int} (h : L.length ≤ 12) (hi : i = 12) : lo (ls_ L (gCtd f t)) w i = ctd L f t w := by subst hi; exact lo_list (gCtd f t) L w 12 h
theorem nxE_lo {L : List EvT} {d nx i : Int} (h : L.length ≤ 12) (hi : i = 12) : lo (ls_ L (gNx d)) nx i = nxE L d nx := by subst hi; exact lo_list (gNx d) L nx 12 h
theorem snr_rng {ch d nx : Int} (h : d < nx) : d < snr ch d nx ∧ snr ch d nx ≤ nx := by unfold snr; split <;> omega
theorem mulb {a b : Int} {A B : Int} (h1 : 0 ≤ a) (h2 : a ≤ A) (h3 : 0 ≤ b) (h4 : b ≤ B) : 0 ≤ a * b ∧ a * b ≤ A * B := ⟨Int.mul_nonneg h1 h3, Int.mul_le_mul h2 h4 h3 (by omega)⟩
theorem ctd_rng {L : List EvT} {f t : Int} (hok : ∀ e ∈ L, eOk e) : ∀ w : Int, 0 ≤ w → w ≤ 50000000 → 0 ≤ ctd L f t w ∧ ctd L f t w ≤ 50000000 := by
  unfold ctd
  induction L with
  | nil => intro w h1 h2; exact ⟨h1, h2⟩
  | cons e L ih =>
    intro w h1 h2
    have ho := hok e List.mem_cons_self
    unfold eOk at ho
    rw [List.foldl_cons]
    refine ih (fun e h => hok e (List.mem_cons_of_mem _ h)) _ ?_ ?_
    · split
      · have q := mulb (a := w) (b := 1000 - eVa e) (A := 50000000) (B := 1000) h1 h2 (by omega) (by omega)
        omega
      · exact h1
    · split
      · have q := mulb (a := w) (b := 1000 - eVa e) (A := 50000000) (B := 1000) h1 h2 (by omega) (by omega)
        omega
      · exact h2
end
section
/-- up to n alone -/
def gd {α : Type} (n : Int) (g : α → Int → α) : α → Int → α := fun x i => if i < n then g x i else x
theorem lo_gd {α : Type} {g : α → Int → α} {a : α} {n N : Int} (h0 : 0 ≤ n) (h1 : n ≤ N) : lo (gd n g) a N = lo g a n := by
  rw [lo_stay a h0 h1 (fun x k h2 h3 => by unfold gd; rw [if_neg (by omega)])]
  exact lo_congr a h0 (fun x j h2 h3 => by unfold gd; rw [if_pos h3])
theorem gNx_rng {L : List EvT} {d nx : Int} (h : d < nx) {i : Int} (hi : 0 ≤ i) : d < lo (ls_ L (gNx d)) nx i ∧ lo (ls_ L (gNx d)) nx i ≤ nx := by
  refine lo_inv (fun x _ => d < x ∧ x ≤ nx) hi ⟨h, Int.le_refl _⟩ (fun x j h1 h2 hx => ?_)
  unfold ls_
  split
  · exact hx
  · rename_i e _
    unfold gNx
    have q1 := snr_rng (ch := eDy e) hx.1
    have q2 := snr_rng (ch := eDy e + 90) q1.1
    omega
theorem gCtd_rng {L : List EvT} {f t w : Int} (hok : ∀ e ∈ L, eOk e) (h1 : 0 ≤ w) (h2 : w ≤ 50000000) {i : Int} (hi : 0 ≤ i) : 0 ≤ lo (ls_ L (gCtd f t)) w i ∧ lo (ls_ L (gCtd f t)) w i ≤ 50000000 := by
  refine lo_inv (fun x _ => 0 ≤ x ∧ x ≤ 50000000) hi ⟨h1, h2⟩ (fun x j h3 h4 hx => ?_)
  unfold ls_
  split
  · exact hx
  · rename_i e he
    have ho := hok e (List.mem_of_getElem? he)
    unfold eOk at ho
    unfold gCtd
    split
    · have q := mulb (a := x) (b := 1000 - eVa e) (A := 50000000) (B := 1000) hx.1 hx.2 (by omega) (by omega)
      omega
    · exact hx
theorem cnt_rng {p : Int → Prop} {d : ∀ i, Decidable (p i)} {n : Int} (hn : 0 ≤ n) : 0 ≤ lo (fun x i => x + @pI (p i) (d i)) 0 n ∧ lo (fun x i => x + @pI (p i) (d i)) 0 n ≤ n :=
  lo_inv (fun x i => 0 ≤ x ∧ x ≤ i) hn ⟨Int.le_refl _, Int.le_refl _⟩ (fun x j h1 h2 hx => by have := @pI_rng (p j) (d j); omega)
theorem rank_rng {V : St} (h : Iv V) (k s out i : Int) : 0 ≤ rank V k s out i ∧ rank V k s out i ≤ 40 := by
  have q := cnt_rng (p := fun o => asked V k s out o ∧ less V o i) (d := fun o => inferInstance) h.n.1
  have := h.n
  unfold rank; omega
theorem among_rng {V : St} (h : Iv V) (k s out : Int) : 0 ≤ among V k s out ∧ among V k s out ≤ 40 := by
  have q := cnt_rng (p := fun o => asked V k s out o) (d := fun o => inferInstance) h.n.1
  have := h.n
  unfold among; omega
/-! lists -/
def stO (V : St) (d : Int) : Int := lo (fun x i => if V 10 i ≤ d then i else x) (-4) (V 0 1)
def nxL (V : St) (d nx : Int) : Int := lo (fun x i => snr (V 10 i) d x) nx (V 0 1)
theorem gd_nxL_rng {V : St} {n d nx : Int} (h : d < nx) {i : Int} (hi : 0 ≤ i) : d < lo (gd n (fun x i => snr (V 10 i) d x)) nx i ∧ lo (gd n (fun x i => snr (V 10 i) d x)) nx i ≤ nx := by
  refine lo_inv (fun x _ => d < x ∧ x ≤ nx) hi ⟨h, Int.le_refl _⟩ (fun x j h1 h2 hx => ?_)
  unfold gd
  split
  · have := snr_rng (ch := V 10 j) hx.1
    show d < snr (V 10 j) d x ∧ snr (V 10 j) d x ≤ nx
    omega
  · exact hx
theorem nxL_rng {V : St} {d nx : Int} (hV : Iv V) (h : d < nx) : d < nxL V d nx ∧ nxL V d nx ≤ nx := by
  have q := gd_nxL_rng (V := V) (n := V 0 1) h hV.l.1
  rw [lo_gd hV.l.1 (Int.le_refl _)] at q
  exact q
theorem nxE_rng {L : List EvT} {d nx : Int} (hL : L.length ≤ 12) (h : d < nx) : d < nxE L d nx ∧ nxE L d nx ≤ nx := by
  have q := gNx_rng (L := L) h (i := 12) (by omega)
  rw [nxE_lo hL rfl] at q
  exact q
theorem stO_rng {V : St} (h : Iv V) (d : Int) : stO V d = -4 ∨ (0 ≤ stO V d ∧ stO V d < V 0 1 ∧ V 10 (stO V d) ≤ d) := by
  unfold stO
  have := h.l
  refine lo_inv (fun x i => x = -4 ∨ (0 ≤ x ∧ x < V 0 1 ∧ V 10 x ≤ d)) h.l.1 (Or.inl rfl) (fun x j h1 h2 hx => ?_)
  split
  · rename_i hj
    exact Or.inr ⟨h1, h2, hj⟩
  · exact hx
/-- the class's lists: the object, its row, each list, its row of units, each unit -/
def Li (G : GG) (H : Heap) (li lr : Nat) (rl ru un : Int → Nat) (uc ud : Int → Int) (V : St) : Prop :=
  Iv V ∧ At G H li (eO 3 [.ref lr, .int (J (V 0 1))]) ∧ At G H lr (eQ G 5 10 (qN (V 0 1) rl)) ∧ (∀ i, 0 ≤ i → i < V 0 1 → At G H (rl i) (eO 4 [.int (J (V 10 i)), .ref (ru i)])) ∧
  (∀ i, 0 ≤ i → i < V 0 1 → At G H (ru i) (eQ G 6 18 (fun j => some (un (18 * i + j))))) ∧
  (∀ i u, 0 ≤ i → i < V 0 1 → 0 ≤ u → u < 18 → At G H (un (18 * i + u)) (eO 6 [.int (J (V 11 (18 * i + u))), .int (J (V 12 (18 * i + u))), .int (J (uc (18 * i + u))), .int (J (ud (18 * i + u)))]))
/-! a year's book -/
def blF (V : St) (y : Int) : Int → Int := fun h => if h < V 0 0 then V 16 (10 * h + y) else -4
def pdF (V : St) (y : Int) : Int → Int := fun h => V 17 (10 * h + y)
def eBk (V : St) (yl yp : Int → Nat) (y : Int) : va_E := eO 7 [.ref (yl y), .ref (yp y), .int (J (V 13 y)), .int (J (V 15 y)), .int (J (V 14 y))]
def Bk (G : GG) (H : Heap) (yb yl yp : Int → Nat) (V : St) (y : Int) : Prop := Iv V ∧ At G H (yb y) (eBk V yl yp y) ∧ At G H (yl y) (eI G 40 (blF V y)) ∧ At G H (yp y) (eI G 40 (pdF V y))
theorem Iv.b {V : St} (h : Iv V) {i y : Int} (h0 : 0 ≤ i) (h1 : i < 40) (h2 : 0 ≤ y) (h3 : y < 10) : (V 16 (10 * i + y) = -4 ∨ (0 ≤ V 16 (10 * i + y) ∧ V 16 (10 * i + y) ≤ 200000000)) ∧ (0 ≤ V 17 (10 * i + y) ∧ V 17 (10 * i + y) ≤ 10000000) := h.2.2.2.2.2.2 i y h0 h1 h2 h3
theorem Iv.y {V : St} (h : Iv V) {y : Int} (h2 : 0 ≤ y) (h3 : y < 10) : (V 13 y = 0 ∨ V 13 y = 1) ∧ (0 ≤ V 14 y ∧ V 14 y ≤ 3000) ∧ (0 ≤ V 15 y ∧ V 15 y ≤ 100000000) := h.2.2.2.2.2.1 y h2 h3
theorem Iv.d {V : St} (h : Iv V) {i : Int} (h0 : 0 ≤ i) (h1 : i < V 0 1) : 0 ≤ V 10 i ∧ V 10 i ≤ 3649 := h.2.2.2.1 i h0 h1
theorem Iv.u {V : St} (h : Iv V) {i u : Int} (h0 : 0 ≤ i) (h1 : i < V 0 1) (h2 : 0 ≤ u) (h3 : u < 18) : (1 ≤ V 11 (18 * i + u) ∧ V 11 (18 * i + u) ≤ 100000) ∧ (1 ≤ V 12 (18 * i + u) ∧ V 12 (18 * i + u) ≤ 500) := h.2.2.2.2.1 i u h0 h1 h2 h3
theorem blF_rng {V : St} (h : Iv V) {i y : Int} (h0 : 0 ≤ i) (h1 : i < 40) (h2 : 0 ≤ y) (h3 : y < 10) : -4 ≤ blF V y i ∧ blF V y i ≤ 200000000 := by
  have := h.b h0 h1 h2 h3
  unfold blF; split <;> omega
/-! what the latest event says -/
def szO (L : List EvT) (z d : Int) : Int := match lat L 0 d with
  | none => z
  | some e => eVa e
def usO (L : List EvT) (d : Int) : Int := match lat L 1 d with
  | none => 0
  | some e => eVa e
theorem lat_inv {L : List EvT} {k d : Int} : ∀ (x : Option EvT), (∀ e, x = some e → eKi e = k ∧ eDy e ≤ d) → ∀ e, L.foldl (gLat k d) x = some e → (e ∈ L ∨ x = some e) ∧ eKi e = k ∧ eDy e ≤ d := by
  induction L with
  | nil => intro x hx e h; exact ⟨Or.inr h, hx e h⟩
  | cons a L ih =>
    intro x hx e h
    rw [List.foldl_cons] at h
    have q := ih (gLat k d x a) (fun e2 h2 => by
      unfold gLat at h2
      split at h2
      · rename_i hc; cases h2; exact hc
      · exact hx e2 h2) e h
    refine ⟨?_, q.2⟩
    rcases q.1 with q1 | q1
    · exact Or.inl (List.mem_cons_of_mem _ q1)
    · unfold gLat at q1
      split at q1
      · cases q1; exact Or.inl List.mem_cons_self
      · exact Or.inr q1
theorem lat_mem {L : List EvT} {k d : Int} {e : EvT} (h : lat L k d = some e) : e ∈ L := by
  rcases (lat_inv none (fun _ h => by cases h) e h).1 with q | q
  · exact q
  · cases q
theorem lat_spec {L : List EvT} {k d : Int} {e : EvT} (h : lat L k d = some e) : eKi e = k ∧ eDy e ≤ d := (lat_inv none (fun _ h => by cases h) e h).2
end
section
theorem lo_inv2 {α : Type} {g : α → Int → α} {a : α} {i0 i : Int} (p : α → Int → Prop) (h00 : 0 ≤ i0) (hi : i0 ≤ i) (h0 : p (lo g a i0) i0) (hs : ∀ (x : α) (j : Int), i0 ≤ j → j < i → p x j → p (g x j) (j + 1)) : p (lo g a i) i := by
  obtain ⟨k, rfl⟩ : ∃ k : Nat, i = i0 + (k : Int) := ⟨(i - i0).toNat, by omega⟩
  clear hi
  induction k with
  | zero => rw [show i0 + ((0 : Nat) : Int) = i0 by omega]; exact h0
  | succ k ih =>
    have e : i0 + ((k + 1 : Nat) : Int) = i0 + (k : Int) + 1 := by omega
    rw [e, lo_s _ _ (by omega)]
    exact hs _ _ (by omega) (by omega) (ih (fun x j h1 h2 => hs x j h1 (by omega)))
theorem lo_gdi {α : Type} {g : α → Int → α} {a : α} {n i : Int} (h0 : 0 ≤ i) (h1 : i ≤ n) : lo (gd n g) a i = lo g a i := lo_congr a h0 (fun x j h2 h3 => by unfold gd; rw [if_pos (by omega)])
def gMid (V : St) (k s out r : Int) : Option Int → Int → Option Int := fun x i => if x = none ∧ asked V k s out i ∧ rank V k s out i = r then some i else x
theorem mid_hit {V : St} {k s out r i : Int} (h0 : 0 ≤ i) (h1 : i < V 0 0) (hno : lo (gd (V 0 0) (gMid V k s out r)) none i = none) (hc : asked V k s out i ∧ rank V k s out i = r) : mid V k s out r = some i := by
  rw [lo_gdi h0 (by omega)] at hno
  refine lo_inv2 (g := gMid V k s out r) (a := none) (i0 := i + 1) (fun x _ => x = some i) (by omega) (by omega) ?_ (fun x j h2 h3 hx => ?_)
  · rw [lo_s _ _ h0, hno]
    unfold gMid
    rw [if_pos ⟨rfl, hc⟩]
  · rw [hx]
    unfold gMid
    rw [if_neg (fun h => by cases h.1)]
theorem mid_none {V : St} (hV : Iv V) {k s out r i : Int} (hi : 40 ≤ i) (hno : lo (gd (V 0 0) (gMid V k s out r)) none i = none) : mid V k s out r = none := by
  have := hV.n
  rw [lo_gd (by omega) (by omega)] at hno
  exact hno
theorem mid_rng {V : St} (hV : Iv V) {k s out r i : Int} (h : mid V k s out r = some i) : (0 ≤ i ∧ i < V 0 0) ∧ asked V k s out i ∧ rank V k s out i = r := by
  refine lo_inv (g := gMid V k s out r) (a := none) (fun x _ => x = some i → (0 ≤ i ∧ i < V 0 0) ∧ asked V k s out i ∧ rank V k s out i = r) hV.n.1 (fun h => by cases h) (fun x j h1 h2 hx hj => ?_) h
  unfold gMid at hj
  split at hj
  · rename_i hc
    cases hj
    exact ⟨⟨h1, h2⟩, hc.2⟩
  · exact hx hj
/-! the class: all that it reads -/
def RB (G : GG) (H : Heap) (a : Nat → Nat) (f : Nat → Int → Nat) (L : Int → List EvT) (u : Nat → Int → Int) (V : St) : Prop :=
  Iv V ∧ At G H (a 0) (eO 8 [.ref (a 1), .ref (a 3), .ref (a 5), .ref (a 6)]) ∧ Tn G H (a 1) (a 2) (f 0) (f 1) V ∧ (∀ h, 0 ≤ h → h < V 0 0 → Evs G H (f 1 h) (f 2 h) (L h)) ∧
  Li G H (a 3) (a 4) (f 3) (f 4) (f 5) (u 0) (u 1) V ∧ At G H (a 5) (eQ G 7 10 (fun y => some (f 6 y))) ∧ (∀ y, 0 ≤ y → y < 10 → Bk G H (f 6) (f 7) (f 8) V y)
def pl (V : St) (h : Int) : Int := V 2 h * 6 + V 3 h
def wO (V : St) (L : List EvT) (h d : Int) : Int := if stO V d < 0 then 0 else ctd L (V 10 (stO V d)) d (szO L (V 4 h) d * V 11 (18 * stO V d + pl V h) / V 12 (18 * stO V d + pl V h))
def cO (V : St) (L : List EvT) (h d : Int) : Int := match lat L 1 d with
  | none => wO V L h d
  | some e => if eVa e = 1 then (if d - eDy e < 90 then 0 else wO V L h d / 2) else if eVa e = 2 then wO V L h d / 2 else if eVa e = 3 then wO V L h d / 5 else wO V L h d
def yrO (V : St) (L : List EvT) (h y : Int) : Int := lo (fun x j => x + rlv (cO V L h (365 * y + j))) 0 365
theorem szO_rng {L : List EvT} {z d : Int} (hok : ∀ e ∈ L, eOk e) (hz : 1 ≤ z ∧ z ≤ 500) : 1 ≤ szO L z d ∧ szO L z d ≤ 500 := by
  unfold szO
  split
  · exact hz
  · rename_i e he
    have h1 := hok e (lat_mem he)
    have h2 := lat_spec he
    unfold eOk at h1
    omega
theorem div_rng {a b B : Int} (h0 : 0 ≤ a) (h1 : a ≤ B) (hb : 1 ≤ b) : 0 ≤ a / b ∧ a / b ≤ B := ⟨Int.ediv_nonneg h0 (by omega), Int.le_trans (Int.ediv_le_self b h0) h1⟩
theorem wO_rng {V : St} {L : List EvT} {h d : Int} (hV : Iv V) (hok : ∀ e ∈ L, eOk e) (h0 : 0 ≤ h) (h1 : h < V 0 0) : 0 ≤ wO V L h d ∧ wO V L h d ≤ 50000000 := by
  unfold wO
  split
  · omega
  · rename_i hs
    have hst := stO_rng hV d
    have hh := hV.h h0 h1
    have hp : 0 ≤ pl V h ∧ pl V h < 18 := by unfold pl; omega
    have hu := hV.u (i := stO V d) (u := pl V h) (by omega) (by omega) hp.1 hp.2
    have hz := szO_rng (z := V 4 h) (d := d) hok hh.2.2.2.1
    have hm := mulb (a := szO L (V 4 h) d) (b := V 11 (18 * stO V d + pl V h)) (A := 500) (B := 100000) (by omega) (by omega) (by omega) (by omega)
    have hd := div_rng (b := V 12 (18 * stO V d + pl V h)) hm.1 hm.2 (by omega)
    exact ctd_rng hok _ hd.1 (by omega)
theorem cO_rng {V : St} {L : List EvT} {h d : Int} (hV : Iv V) (hok : ∀ e ∈ L, eOk e) (h0 : 0 ≤ h) (h1 : h < V 0 0) : 0 ≤ cO V L h d ∧ cO V L h d ≤ 50000000 := by
  have hw := wO_rng (d := d) hV hok h0 h1
  unfold cO
  repeat' split
  all_goals omega
theorem rlv_rng {c : Int} (h : 0 ≤ c ∧ c ≤ 50000000) : 0 ≤ rlv c ∧ rlv c ≤ 50000000 := by unfold rlv; repeat' split
                                                                                          all_goals omega
/-! bills -/
def bt (ys : Int → Int) (p : Int) : Int := lo (fun x i => x + ys i * p / 365000) 0 40
def lpO (ys : Int → Int) (nd : Int) : Int := lo (fun x p => if x = -4 ∧ nd ≤ bt ys p then p else x) (-4) 3001
def opO (V : St) (h y : Int) : Int := if blF V y h = -4 then 0 else blF V y h - pdF V y h
def owO (V : St) (h w : Int) : Int := lo (fun x y => x + max 0 (if w = 0 then opO V h y else -opO V h y)) 0 10
def inW (V : St) (w i : Int) : Prop := w = -1 ∨ V 1 i = w
def biO (V : St) (w y : Int) : Int := lo (fun x i => if w = -1 ∨ V 1 i = w then x + max 0 (blF V y i) else x) 0 (V 0 0)
def paO (V : St) (w y : Int) : Int := lo (fun x i => if w = -1 ∨ V 1 i = w then x + pdF V y i else x) 0 (V 0 0)
def syO (V : St) : Int := lo (fun x y => if V 13 y ≠ 0 then x + 1 else x) 0 10
def evO (V : St) : Int := lo (fun x i => x + V 6 i) 0 (V 0 0)
def rkO (V : St) : Int := lo (fun x i => x + pI (0 < V 5 i)) 0 (V 0 0)
end
section
/-! from change to change -/
theorem foldl_congr {α β : Type} {g g' : α → β → α} : ∀ (L : List β) (x : α), (∀ e ∈ L, ∀ x, g x e = g' x e) → L.foldl g x = L.foldl g' x := by
  intro L
  induction L with
  | nil => intro x _; rfl
  | cons a L ih =>
    intro x h
    rw [List.foldl_cons, List.foldl_cons, h a List.mem_cons_self, ih _ (fun e he => h e (List.mem_cons_of_mem _ he))]
theorem snr_le (ch d nx : Int) : snr ch d nx ≤ nx := by unfold snr; split <;> omega
theorem nxE_le (d : Int) : ∀ (L : List EvT) (x : Int), L.foldl (gNx d) x ≤ x := by
  intro L
  induction L with
  | nil => intro x; exact Int.le_refl _
  | cons a L ih =>
    intro x
    rw [List.foldl_cons]
    refine Int.le_trans (ih _) ?_
    unfold gNx
    exact Int.le_trans (snr_le _ _ _) (snr_le _ _ _)
theorem nxE_spec (d : Int) : ∀ (L : List EvT) (x : Int), ∀ e ∈ L, (eDy e ≤ d ∨ L.foldl (gNx d) x ≤ eDy e) ∧ (eDy e + 90 ≤ d ∨ L.foldl (gNx d) x ≤ eDy e + 90) := by
  intro L
  induction L with
  | nil => intro x e h; cases h
  | cons a L ih =>
    intro x e h
    rw [List.foldl_cons]
    rcases List.mem_cons.mp h with h | h
    · subst h
      have q := nxE_le d L (gNx d x e)
      have h1 : (eDy e ≤ d ∨ gNx d x e ≤ eDy e) ∧ (eDy e + 90 ≤ d ∨ gNx d x e ≤ eDy e + 90) := by
        unfold gNx snr
        (repeat' split) <;> omega
      omega
    · exact ih _ e h
theorem nxL_spec {V : St} {d nx : Int} (hl : 0 ≤ V 0 1) {i : Int} (h0 : 0 ≤ i) (h1 : i < V 0 1) : V 10 i ≤ d ∨ nxL V d nx ≤ V 10 i := by
  have q := lo_inv2 (g := fun x i => snr (V 10 i) d x) (a := nx) (i0 := i + 1) (i := V 0 1) (fun x _ => V 10 i ≤ d ∨ x ≤ V 10 i) (by omega) (by omega) (by
    rw [lo_s _ _ h0]
    show V 10 i ≤ d ∨ snr (V 10 i) d _ ≤ V 10 i
    unfold snr; split <;> omega) (fun x j h2 h3 hx => by
    have := snr_le (V 10 j) d x
    show V 10 i ≤ d ∨ snr (V 10 j) d x ≤ V 10 i
    omega)
  exact q
theorem lat_same {L : List EvT} {k d d' : Int} (h : ∀ e ∈ L, eDy e ≤ d' ↔ eDy e ≤ d) : lat L k d' = lat L k d := foldl_congr L none (fun e he x => by
  have := h e he
  by_cases q : eKi e = k ∧ eDy e ≤ d
  · rw [if_pos q, if_pos ⟨q.1, this.mpr q.2⟩]
  · rw [if_neg q, if_neg (fun z => q ⟨z.1, this.mp z.2⟩)])
theorem cO_same {V : St} {L : List EvT} {h d d' nx : Int} (hV : Iv V) (hL : L.length ≤ 12) (h1 : d ≤ d') (h2 : d' < nxL V d (nxE L d nx)) (hn : d < nx) : cO V L h d' = cO V L h d := by
  have he := nxE_rng hL hn
  have hl := nxL_rng hV he.1
  have hE : ∀ e ∈ L, (eDy e ≤ d' ↔ eDy e ≤ d) ∧ (d' - eDy e < 90 ↔ d - eDy e < 90) := fun e hm => by
    have q : (eDy e ≤ d ∨ nxE L d nx ≤ eDy e) ∧ (eDy e + 90 ≤ d ∨ nxE L d nx ≤ eDy e + 90) := nxE_spec d L nx e hm
    omega
  have hlat : ∀ k, lat L k d' = lat L k d := fun k => lat_same (fun e hm => (hE e hm).1)
  have hst : stO V d' = stO V d := lo_congr (-4) hV.l.1 (fun x j h3 h4 => by
    have q := nxL_spec (d := d) (nx := nxE L d nx) hV.l.1 h3 h4
    by_cases z : V 10 j ≤ d
    · rw [if_pos z, if_pos (by omega)]
    · rw [if_neg z, if_neg (by omega)])
  have hsz : ∀ z, szO L z d' = szO L z d := fun z => by unfold szO; rw [hlat]
  have hct : ∀ f w, ctd L f d' w = ctd L f d w := fun f w => foldl_congr L w (fun e hm x => by
    have q := (hE e hm).1
    by_cases z : eKi e = 2 ∧ f ≤ eDy e ∧ eDy e ≤ d
    · rw [if_pos z, if_pos ⟨z.1, z.2.1, q.mpr z.2.2⟩]
    · rw [if_neg z, if_neg (fun y => z ⟨y.1, y.2.1, q.mp y.2.2⟩)])
  have hw : wO V L h d' = wO V L h d := by unfold wO; rw [hst, hsz, hct]
  unfold cO
  rw [hlat, hw]
  split
  · rfl
  · rename_i e hm
    have q := (hE e (lat_mem hm)).2
    by_cases z : d - eDy e < 90
    · rw [if_pos z, if_pos (q.mpr z)]
    · rw [if_neg z, if_neg (fun y => z (q.mp y))]
theorem lo_seg {g : Int → Int} {i k c : Int} (hi : 0 ≤ i) (hk : 0 ≤ k) (h : ∀ j, i ≤ j → j < i + k → g j = c) : lo (fun x j => x + g j) 0 (i + k) = lo (fun x j => x + g j) 0 i + k * c := by
  obtain ⟨n, rfl⟩ : ∃ n : Nat, k = (n : Int) := ⟨k.toNat, by omega⟩
  clear hk
  induction n with
  | zero => simp
  | succ n ih =>
    have e : i + ((n + 1 : Nat) : Int) = i + (n : Int) + 1 := by omega
    rw [e, lo_s _ _ (by omega), ih (fun j h1 h2 => h j h1 (by omega)), h _ (by omega) (by omega)]
    have e2 : ((n + 1 : Nat) : Int) * c = (n : Int) * c + c := by rw [show ((n + 1 : Nat) : Int) = (n : Int) + 1 by omega, Int.add_mul, Int.one_mul]
    omega
/-- one stretch of a year -/
theorem yr_seg {V : St} {L : List EvT} {h y d en : Int} (hV : Iv V) (hL : L.length ≤ 12) (h0 : 365 * y ≤ d) (hn : d < en) : lo (fun x j => x + rlv (cO V L h (365 * y + j))) 0 (nxL V d (nxE L d en) - 365 * y) = lo (fun x j => x + rlv (cO V L h (365 * y + j))) 0 (d - 365 * y) + (nxL V d (nxE L d en) - d) * rlv (cO V L h d) := by
  have he := nxE_rng hL hn
  have hl := nxL_rng hV he.1
  have q := lo_seg (g := fun j => rlv (cO V L h (365 * y + j))) (i := d - 365 * y) (k := nxL V d (nxE L d en) - d) (c := rlv (cO V L h d)) (by omega) (by omega) (fun j h1 h2 => by
    show rlv (cO V L h (365 * y + j)) = _
    rw [cO_same (d := d) (d' := 365 * y + j) (nx := en) hV hL (by omega) (by omega) hn])
  rw [show d - 365 * y + (nxL V d (nxE L d en) - d) = nxL V d (nxE L d en) - 365 * y by omega] at q
  exact q
theorem lo_sum_rng {g : Int → Int} {n B : Int} (hn : 0 ≤ n) (hB : 0 ≤ B) (h : ∀ j, 0 ≤ j → j < n → 0 ≤ g j ∧ g j ≤ B) : 0 ≤ lo (fun x j => x + g j) 0 n ∧ lo (fun x j => x + g j) 0 n ≤ n * B := by
  refine lo_inv (fun x j => 0 ≤ x ∧ x ≤ j * B) hn (by simp) (fun x j h1 h2 hx => ?_)
  have q := h j h1 h2
  have e : (j + 1) * B = j * B + B := by rw [Int.add_mul, Int.one_mul]
  show 0 ≤ x + g j ∧ x + g j ≤ (j + 1) * B
  omega
theorem yrO_rng {V : St} {L : List EvT} {h y : Int} (hV : Iv V) (hok : ∀ e ∈ L, eOk e) (h0 : 0 ≤ h) (h1 : h < V 0 0) : 0 ≤ yrO V L h y ∧ yrO V L h y ≤ 20000000000 := by
  have q := lo_sum_rng (g := fun j => rlv (cO V L h (365 * y + j))) (n := 365) (B := 50000000) (by omega) (by omega) (fun j _ _ => rlv_rng (cO_rng hV hok h0 h1))
  unfold yrO; omega
/-! the least poundage -/
theorem bill_mono {y p p' : Int} (hy : 0 ≤ y) (h : p ≤ p') : y * p / 365000 ≤ y * p' / 365000 := Int.ediv_le_ediv (by omega) (Int.mul_le_mul_of_nonneg_left h hy)
theorem bt_mono {ys : Int → Int} {p p' : Int} (hy : ∀ i, 0 ≤ i → i < 40 → 0 ≤ ys i) (h : p ≤ p') : bt ys p ≤ bt ys p' := by
  have key : ∀ n : Nat, (n : Int) ≤ 40 → lo (fun x i => x + ys i * p / 365000) 0 (n : Int) ≤ lo (fun x i => x + ys i * p' / 365000) 0 (n : Int) := by
    intro n
    induction n with
    | zero => intro _; exact Int.le_refl _
    | succ n ih =>
      intro hn
      rw [show ((n + 1 : Nat) : Int) = (n : Int) + 1 by omega, lo_s _ _ (by omega), lo_s _ _ (by omega)]
      have q := ih (by omega)
      have z := bill_mono (hy n (by omega) (by omega)) h
      omega
  exact key 40 (by omega)
theorem bill_rng {y p : Int} (hy : 0 ≤ y ∧ y ≤ 20000000000) (hp : 0 ≤ p ∧ p ≤ 3000) : 0 ≤ y * p / 365000 ∧ y * p / 365000 ≤ 170000000 := by
  have q := mulb hy.1 hy.2 hp.1 hp.2
  omega
theorem bt_rng {ys : Int → Int} {p : Int} (hy : ∀ i, 0 ≤ i → i < 40 → 0 ≤ ys i ∧ ys i ≤ 20000000000) (hp : 0 ≤ p ∧ p ≤ 3000) : 0 ≤ bt ys p ∧ bt ys p ≤ 6800000000 := by
  have q := lo_sum_rng (g := fun i => ys i * p / 365000) (n := 40) (B := 170000000) (by omega) (by omega) (fun j h1 h2 => bill_rng (hy j h1 h2) hp)
  unfold bt; omega
theorem lpO_spec (ys : Int → Int) (nd : Int) : (lpO ys nd = -4 ∧ ∀ p, 0 ≤ p → p ≤ 3000 → bt ys p < nd) ∨ ((0 ≤ lpO ys nd ∧ lpO ys nd ≤ 3000) ∧ nd ≤ bt ys (lpO ys nd) ∧ ∀ p, 0 ≤ p → p < lpO ys nd → bt ys p < nd) := by
  have q := lo_inv (g := fun x p => if x = -4 ∧ nd ≤ bt ys p then p else x) (a := -4) (i := 3001) (fun x j => (x = -4 ∧ ∀ p, 0 ≤ p → p < j → bt ys p < nd) ∨ ((0 ≤ x ∧ x < j) ∧ nd ≤ bt ys x ∧ ∀ p, 0 ≤ p → p < x → bt ys p < nd)) (by omega) (Or.inl ⟨rfl, fun p h1 h2 => by omega⟩) (fun x j h1 h2 hx => by
    show ((if x = -4 ∧ nd ≤ bt ys j then j else x) = -4 ∧ _) ∨ _
    by_cases z : x = -4 ∧ nd ≤ bt ys j
    · rcases hx with hx | hx
      · refine Or.inr ?_
        rw [if_pos z]
        exact ⟨⟨h1, by omega⟩, z.2, hx.2⟩
      · omega
    · rw [if_neg z]
      rcases hx with hx | hx
      · refine Or.inl ⟨hx.1, fun p h3 h4 => ?_⟩
        by_cases w : p = j
        · subst w
          by_cases v : nd ≤ bt ys p
          · exact absurd ⟨hx.1, v⟩ z
          · omega
        · exact hx.2 p h3 (by omega)
      · exact Or.inr ⟨⟨hx.1.1, by omega⟩, hx.2⟩)
  rcases q with q | q
  · exact Or.inl ⟨q.1, fun p h1 h2 => q.2 p h1 (by omega)⟩
  · exact Or.inr ⟨⟨q.1.1, by have := q.1.2; unfold lpO; omega⟩, q.2⟩
theorem lpO_none {ys : Int → Int} {nd : Int} (h : bt ys 3000 < nd) (hy : ∀ i, 0 ≤ i → i < 40 → 0 ≤ ys i) : lpO ys nd = -4 := by
  rcases lpO_spec ys nd with q | q
  · exact q.1
  · have := bt_mono hy q.1.2
    omega
theorem lpO_some {ys : Int → Int} {nd : Int} (h : nd ≤ bt ys 3000) : (0 ≤ lpO ys nd ∧ lpO ys nd ≤ 3000) ∧ nd ≤ bt ys (lpO ys nd) ∧ ∀ p, 0 ≤ p → p < lpO ys nd → bt ys p < nd := by
  rcases lpO_spec ys nd with q | q
  · have := q.2 3000 (by omega) (by omega)
    omega
  · exact q
/-- a power of two -/
def ipw (s : Int) : Prop := ∃ k : Nat, s = 2 ^ k
theorem ipw_half {s : Int} (h : ipw s) : (s = 1 ∧ s / 2 = 0) ∨ (0 < s / 2 ∧ 2 * (s / 2) = s ∧ ipw (s / 2)) := by
  obtain ⟨k, rfl⟩ := h
  cases k with
  | zero => exact Or.inl ⟨rfl, rfl⟩
  | succ k =>
    have e : (2 : Int) ^ (k + 1) = 2 * 2 ^ k := by rw [Int.pow_succ, Int.mul_comm]
    have p : (0 : Int) < 2 ^ k := Int.pow_pos (by omega)
    have d : (2 : Int) ^ (k + 1) / 2 = 2 ^ k := by omega
    exact Or.inr ⟨by omega, by omega, k, d⟩
/-- the halving's state: the answer lies in a stretch behind q -/
def hlv (a q s : Int) : Prop := (s = 0 ∧ a = q) ∨ (0 < s ∧ s ≤ 2048 ∧ ipw s ∧ q ≤ a ∧ a < q + 2 * s)
theorem hlv_up {a q s : Int} (hs : 0 < s) (h : hlv a q s) (h2 : q + s ≤ a) : hlv a (q + s) (s / 2) := by
  rcases h with h | h
  · omega
  · rcases ipw_half h.2.2.1 with z | z
    · exact Or.inl (by omega)
    · exact Or.inr ⟨by omega, by omega, z.2.2, by omega, by omega⟩
theorem hlv_stay {a q s : Int} (hs : 0 < s) (h : hlv a q s) (h2 : a < q + s) : hlv a q (s / 2) := by
  rcases h with h | h
  · omega
  · rcases ipw_half h.2.2.1 with z | z
    · exact Or.inl (by omega)
    · exact Or.inr ⟨by omega, by omega, z.2.2, by omega, by omega⟩
end
section
abbrev rmX8_isWithin : Room := { frames := 0, cells := 0, slots := 0, locals := 0 }
set_option maxHeartbeats 4000000 in
set_option maxRecDepth 100000 in
theorem c_X8_isWithin (l : Launch) (G : GG) (v lo_ hi : Int) (g_v : -2147483648 ≤ v ∧ v < 2147483648) (g_lo_ : -2147483648 ≤ lo_ ∧ lo_ < 2147483648) (g_hi : -2147483648 ≤ hi ∧ hi < 2147483648) : MP l G yX8_isWithin wsX8_isWithin rmX8_isWithin [.int (J v), .int (J lo_), .int (J hi)] (fun H => True) (.int (J (pI (lo_ ≤ v ∧ v ≤ hi))) : Value) := by
  refine MP.of (cc := cX8_isWithin) (maxL := 3) (ret := (some .boolean)) (by decide) rfl (Nat.le_of_ble_eq_true rfl) ?_
  intro p e s m below meth c hx hb hr hml hown hts hlk hK hP ls hl
  have hown : s.vm.findClass RX8 = some m.cls := hown
  have hl : lv_has ls 3 [(0, .int (J v)), (1, .int (J lo_)), (2, .int (J hi))] := hl
  refine lv_iload_n hx hb dX8_isWithin_0 rfl (lv_at hl 0 rfl) ?_
  refine lv_iload_n hx hb dX8_isWithin_1 rfl (lv_at hl 1 rfl) ?_
  refine j_clt (tgt := 14) hx hb (by omega) (by omega) (by omega) (by omega) dX8_isWithin_2 (by decide) (fun c2 => ?_) (fun c2 => ?_)
  · refine j_const hx hb dX8_isWithin_14 ?_
    exact r_z hx hb hr hlk rfl (congrArg (fun z => Value.int (J z)) (show (0 : Int) = pI (lo_ ≤ v ∧ v ≤ hi) from (pI_f (by omega)).symm)) dX8_isWithin_15
  · refine lv_iload_n hx hb dX8_isWithin_5 rfl (lv_at hl 0 rfl) ?_
    refine lv_iload_n hx hb dX8_isWithin_6 rfl (lv_at hl 2 rfl) ?_
    refine j_cgt (tgt := 14) hx hb (by omega) (by omega) (by omega) (by omega) dX8_isWithin_7 (by decide) (fun c7 => ?_) (fun c7 => ?_)
    · refine j_const hx hb dX8_isWithin_14 ?_
      exact r_z hx hb hr hlk rfl (congrArg (fun z => Value.int (J z)) (show (0 : Int) = pI (lo_ ≤ v ∧ v ≤ hi) from (pI_f (by omega)).symm)) dX8_isWithin_15
    · refine j_const hx hb dX8_isWithin_10 ?_
      refine lv_goto (tgt := 15) hx hb dX8_isWithin_11 (by decide) ?_
      exact r_z hx hb hr hlk rfl (congrArg (fun z => Value.int (J z)) (show (1 : Int) = pI (lo_ ≤ v ∧ v ≤ hi) from (pI_t (by omega)).symm)) dX8_isWithin_15

abbrev rmX9_in : Room := { frames := 0, cells := 0, slots := 0, locals := 0 }
set_option maxHeartbeats 4000000 in
set_option maxRecDepth 100000 in
theorem c_X9_in (l : Launch) (G : GG) (v lo_ hi : Int) (g_v : -2147483648 ≤ v ∧ v < 2147483648) (g_lo_ : -2147483648 ≤ lo_ ∧ lo_ < 2147483648) (g_hi : -2147483648 ≤ hi ∧ hi < 2147483648) : MP l G yX9_in wsX9_in rmX9_in [.int (J v), .int (J lo_), .int (J hi)] (fun H => True) (.int (J (pI (lo_ ≤ v ∧ v ≤ hi))) : Value) := by
  refine MP.of (cc := cX9_in) (maxL := 3) (ret := (some .boolean)) (by decide) rfl (Nat.le_of_ble_eq_true rfl) ?_
  intro p e s m below meth c hx hb hr hml hown hts hlk hK hP ls hl
  have hown : s.vm.findClass RX9 = some m.cls := hown
  have hl : lv_has ls 3 [(0, .int (J v)), (1, .int (J lo_)), (2, .int (J hi))] := hl
  refine lv_iload_n hx hb dX9_in_0 rfl (lv_at hl 0 rfl) ?_
  refine lv_iload_n hx hb dX9_in_1 rfl (lv_at hl 1 rfl) ?_
  refine j_clt (tgt := 14) hx hb (by omega) (by omega) (by omega) (by omega) dX9_in_2 (by decide) (fun c2 => ?_) (fun c2 => ?_)
  · refine j_const hx hb dX9_in_14 ?_
    exact r_z hx hb hr hlk rfl (congrArg (fun z => Value.int (J z)) (show (0 : Int) = pI (lo_ ≤ v ∧ v ≤ hi) from (pI_f (by omega)).symm)) dX9_in_15
  · refine lv_iload_n hx hb dX9_in_5 rfl (lv_at hl 0 rfl) ?_
    refine lv_iload_n hx hb dX9_in_6 rfl (lv_at hl 2 rfl) ?_
    refine j_cgt (tgt := 14) hx hb (by omega) (by omega) (by omega) (by omega) dX9_in_7 (by decide) (fun c7 => ?_) (fun c7 => ?_)
    · refine j_const hx hb dX9_in_14 ?_
      exact r_z hx hb hr hlk rfl (congrArg (fun z => Value.int (J z)) (show (0 : Int) = pI (lo_ ≤ v ∧ v ≤ hi) from (pI_f (by omega)).symm)) dX9_in_15
    · refine j_const hx hb dX9_in_10 ?_
      refine lv_goto (tgt := 15) hx hb dX9_in_11 (by decide) ?_
      exact r_z hx hb hr hlk rfl (congrArg (fun z => Value.int (J z)) (show (1 : Int) = pI (lo_ ≤ v ∧ v ≤ hi) from (pI_t (by omega)).symm)) dX9_in_15

abbrev rmX8_isOf : Room := { frames := 0, cells := 0, slots := 0, locals := 0 }
set_option maxHeartbeats 4000000 in
set_option maxRecDepth 100000 in
theorem c_X8_isOf (l : Launch) (G : GG) (v n : Int) (g_v : -2147483648 ≤ v ∧ v < 2147483648) (g_n : -2147483648 ≤ n ∧ n < 2147483648) : MP l G yX8_isOf wsX8_isOf rmX8_isOf [.int (J v), .int (J n)] (fun H => True) (.int (J (pI (0 ≤ v ∧ v < n))) : Value) := by
  refine MP.of (cc := cX8_isOf) (maxL := 2) (ret := (some .boolean)) (by decide) rfl (Nat.le_of_ble_eq_true rfl) ?_
  intro p e s m below meth c hx hb hr hml hown hts hlk hK hP ls hl
  have hown : s.vm.findClass RX8 = some m.cls := hown
  have hl : lv_has ls 2 [(0, .int (J v)), (1, .int (J n))] := hl
  refine lv_iload_n hx hb dX8_isOf_0 rfl (lv_at hl 0 rfl) ?_
  refine j_lt0 (tgt := 13) hx hb (by omega) (by omega) dX8_isOf_1 (by decide) (fun c1 => ?_) (fun c1 => ?_)
  · refine j_const hx hb dX8_isOf_13 ?_
    exact r_z hx hb hr hlk rfl (congrArg (fun z => Value.int (J z)) (show (0 : Int) = pI (0 ≤ v ∧ v < n) from (pI_f (by omega)).symm)) dX8_isOf_14
  · refine lv_iload_n hx hb dX8_isOf_4 rfl (lv_at hl 0 rfl) ?_
    refine lv_iload_n hx hb dX8_isOf_5 rfl (lv_at hl 1 rfl) ?_
    refine j_cge (tgt := 13) hx hb (by omega) (by omega) (by omega) (by omega) dX8_isOf_6 (by decide) (fun c6 => ?_) (fun c6 => ?_)
    · refine j_const hx hb dX8_isOf_13 ?_
      exact r_z hx hb hr hlk rfl (congrArg (fun z => Value.int (J z)) (show (0 : Int) = pI (0 ≤ v ∧ v < n) from (pI_f (by omega)).symm)) dX8_isOf_14
    · refine j_const hx hb dX8_isOf_9 ?_
      refine lv_goto (tgt := 14) hx hb dX8_isOf_10 (by decide) ?_
      exact r_z hx hb hr hlk rfl (congrArg (fun z => Value.int (J z)) (show (1 : Int) = pI (0 ≤ v ∧ v < n) from (pI_t (by omega)).symm)) dX8_isOf_14

abbrev rmX8_sooner : Room := { frames := 0, cells := 0, slots := 0, locals := 0 }
set_option maxHeartbeats 4000000 in
set_option maxRecDepth 100000 in
theorem c_X8_sooner (l : Launch) (G : GG) (a d n : Int) (g_a : -2147483648 ≤ a ∧ a < 2147483648) (g_d : -2147483648 ≤ d ∧ d < 2147483648) (g_n : -2147483648 ≤ n ∧ n < 2147483648) : MP l G yX8_sooner wsX8_sooner rmX8_sooner [.int (J a), .int (J d), .int (J n)] (fun H => True) (.int (J (snr a d n)) : Value) := by
  refine MP.of (cc := cX8_sooner) (maxL := 3) (ret := (some .int)) (by decide) rfl (Nat.le_of_ble_eq_true rfl) ?_
  intro p e s m below meth c hx hb hr hml hown hts hlk hK hP ls hl
  have hown : s.vm.findClass RX8 = some m.cls := hown
  have hl : lv_has ls 3 [(0, .int (J a)), (1, .int (J d)), (2, .int (J n))] := hl
  refine lv_iload_n hx hb dX8_sooner_0 rfl (lv_at hl 0 rfl) ?_
  refine lv_iload_n hx hb dX8_sooner_1 rfl (lv_at hl 1 rfl) ?_
  refine j_cle (tgt := 14) hx hb (by omega) (by omega) (by omega) (by omega) dX8_sooner_2 (by decide) (fun c2 => ?_) (fun c2 => ?_)
  · refine lv_iload_n hx hb dX8_sooner_14 rfl (lv_at hl 2 rfl) ?_
    exact r_i hx hb hr hlk (congrArg (fun z => Value.int (J z)) (show (n : Int) = snr a d n from by unfold snr; first | rw [if_pos (by omega)] | rw [if_neg (by omega)])) dX8_sooner_15
  · refine lv_iload_n hx hb dX8_sooner_5 rfl (lv_at hl 0 rfl) ?_
    refine lv_iload_n hx hb dX8_sooner_6 rfl (lv_at hl 2 rfl) ?_
    refine j_cge (tgt := 14) hx hb (by omega) (by omega) (by omega) (by omega) dX8_sooner_7 (by decide) (fun c7 => ?_) (fun c7 => ?_)
    · refine lv_iload_n hx hb dX8_sooner_14 rfl (lv_at hl 2 rfl) ?_
      exact r_i hx hb hr hlk (congrArg (fun z => Value.int (J z)) (show (n : Int) = snr a d n from by unfold snr; first | rw [if_pos (by omega)] | rw [if_neg (by omega)])) dX8_sooner_15
    · refine lv_iload_n hx hb dX8_sooner_10 rfl (lv_at hl 0 rfl) ?_
      refine lv_goto (tgt := 15) hx hb dX8_sooner_11 (by decide) ?_
      exact r_i hx hb hr hlk (congrArg (fun z => Value.int (J z)) (show (a : Int) = snr a d n from by unfold snr; first | rw [if_pos (by omega)] | rw [if_neg (by omega)])) dX8_sooner_15

abbrev rmX8_relieved : Room := { frames := 0, cells := 0, slots := 0, locals := 0 }
set_option maxHeartbeats 4000000 in
set_option maxRecDepth 100000 in
theorem c_X8_relieved (l : Launch) (G : GG) (v : Int) (h_v : 0 ≤ v ∧ v ≤ 50000000) : MP l G yX8_relieved wsX8_relieved rmX8_relieved [.int (J v)] (fun H => True) (.int (J (rlv v)) : Value) := by
  refine MP.of (cc := cX8_relieved) (maxL := 1) (ret := (some .int)) (by decide) rfl (Nat.le_of_ble_eq_true rfl) ?_
  intro p e s m below meth c hx hb hr hml hown hts hlk hK hP ls hl
  have hown : s.vm.findClass RX8 = some m.cls := hown
  have hl : lv_has ls 1 [(0, .int (J v))] := hl
  refine lv_iload_n hx hb dX8_relieved_0 rfl (lv_at hl 0 rfl) ?_
  refine j_si hx hb dX8_relieved_1 (by decide +kernel) ?_
  refine j_cgt (tgt := 9) hx hb (by omega) (by omega) (by decide) (by decide) dX8_relieved_4 (by decide) (fun c4 => ?_) (fun c4 => ?_)
  · refine lv_iload_n hx hb dX8_relieved_9 rfl (lv_at hl 0 rfl) ?_
    refine j_si hx hb dX8_relieved_10 (by decide +kernel) ?_
    refine j_cgt (tgt := 26) hx hb (by omega) (by omega) (by decide) (by decide) dX8_relieved_13 (by decide) (fun c13 => ?_) (fun c13 => ?_)
    · refine lv_iload_n hx hb dX8_relieved_26 rfl (lv_at hl 0 rfl) ?_
      exact r_i hx hb hr hlk (congrArg (fun z => Value.int (J z)) (show (v : Int) = rlv v from by unfold rlv; (repeat' split) <;> omega)) dX8_relieved_27
    · refine j_const hx hb dX8_relieved_16 ?_
      refine lv_iload_n hx hb dX8_relieved_17 rfl (lv_at hl 0 rfl) ?_
      refine j_si hx hb dX8_relieved_18 (by decide +kernel) ?_
      refine j_sub hx hb dX8_relieved_21 ?_
      refine j_mul hx hb dX8_relieved_22 ?_
      refine lv_goto (tgt := 27) hx hb dX8_relieved_23 (by decide) ?_
      exact r_i hx hb hr hlk (congrArg (fun z => Value.int (J z)) (show (5 * (v - 1200) : Int) = rlv v from by unfold rlv; (repeat' split) <;> omega)) dX8_relieved_27
  · refine j_const hx hb dX8_relieved_7 ?_
    exact r_i hx hb hr hlk (congrArg (fun z => Value.int (J z)) (show (0 : Int) = rlv v from by unfold rlv; (repeat' split) <;> omega)) dX8_relieved_8

abbrev rmX9_relieved : Room := { frames := 0, cells := 0, slots := 0, locals := 0 }
set_option maxHeartbeats 4000000 in
set_option maxRecDepth 100000 in
theorem c_X9_relieved (l : Launch) (G : GG) (v : Int) (h_v : 0 ≤ v ∧ v ≤ 50000000) : MP l G yX9_relieved wsX9_relieved rmX9_relieved [.int (J v)] (fun H => True) (.int (J (rlv v)) : Value) := by
  refine MP.of (cc := cX9_relieved) (maxL := 1) (ret := (some .int)) (by decide) rfl (Nat.le_of_ble_eq_true rfl) ?_
  intro p e s m below meth c hx hb hr hml hown hts hlk hK hP ls hl
  have hown : s.vm.findClass RX9 = some m.cls := hown
  have hl : lv_has ls 1 [(0, .int (J v))] := hl
  refine lv_iload_n hx hb dX9_relieved_0 rfl (lv_at hl 0 rfl) ?_
  refine j_si hx hb dX9_relieved_1 (by decide +kernel) ?_
  refine j_cgt (tgt := 11) hx hb (by omega) (by omega) (by decide) (by decide) dX9_relieved_4 (by decide) (fun c4 => ?_) (fun c4 => ?_)
  · refine lv_iload_n hx hb dX9_relieved_11 rfl (lv_at hl 0 rfl) ?_
    refine j_si hx hb dX9_relieved_12 (by decide +kernel) ?_
    refine j_cgt (tgt := 28) hx hb (by omega) (by omega) (by decide) (by decide) dX9_relieved_15 (by decide) (fun c15 => ?_) (fun c15 => ?_)
    · refine lv_iload_n hx hb dX9_relieved_28 rfl (lv_at hl 0 rfl) ?_
      exact r_i hx hb hr hlk (congrArg (fun z => Value.int (J z)) (show (v : Int) = rlv v from by unfold rlv; (repeat' split) <;> omega)) dX9_relieved_29
    · refine j_const hx hb dX9_relieved_18 ?_
      refine lv_iload_n hx hb dX9_relieved_19 rfl (lv_at hl 0 rfl) ?_
      refine j_si hx hb dX9_relieved_20 (by decide +kernel) ?_
      refine j_sub hx hb dX9_relieved_23 ?_
      refine j_mul hx hb dX9_relieved_24 ?_
      refine lv_goto (tgt := 29) hx hb dX9_relieved_25 (by decide) ?_
      exact r_i hx hb hr hlk (congrArg (fun z => Value.int (J z)) (show (5 * (v - 1200) : Int) = rlv v from by unfold rlv; (repeat' split) <;> omega)) dX9_relieved_29
  · refine j_const hx hb dX9_relieved_7 ?_
    refine lv_goto (tgt := 29) hx hb dX9_relieved_8 (by decide) ?_
    exact r_i hx hb hr hlk (congrArg (fun z => Value.int (J z)) (show (0 : Int) = rlv v from by unfold rlv; (repeat' split) <;> omega)) dX9_relieved_29

abbrev rmX8_isEvent : Room := { frames := 1, cells := 0, slots := 0, locals := 22 }
set_option maxHeartbeats 4000000 in
set_option maxRecDepth 100000 in
theorem c_X8_isEvent (l : Launch) (G : GG) (k v : Int) (g_k : -2147483648 ≤ k ∧ k < 2147483648) (g_v : -2147483648 ≤ v ∧ v < 2147483648) : MP l G yX8_isEvent wsX8_isEvent rmX8_isEvent [.int (J k), .int (J v)] (fun H => True) (.int (J (pI ((k = 0 ∧ 1 ≤ v ∧ v ≤ 500) ∨ (k = 1 ∧ 0 ≤ v ∧ v ≤ 3) ∨ (k = 2 ∧ 1 ≤ v ∧ v ≤ 900)))) : Value) := by
  refine MP.of (cc := cX8_isEvent) (maxL := 2) (ret := (some .boolean)) (by decide) rfl (Nat.le_of_ble_eq_true rfl) ?_
  intro p e s m below meth c hx hb hr hml hown hts hlk hK hP ls hl
  have hown : s.vm.findClass RX8 = some m.cls := hown
  have hl : lv_has ls 2 [(0, .int (J k)), (1, .int (J v))] := hl
  refine lv_iload_n hx hb dX8_isEvent_0 rfl (lv_at hl 0 rfl) ?_
  rcases (show k = 0 ∨ k = 1 ∨ k = 2 ∨ (k < 0 ∨ 2 < k) by omega) with c1 | c1 | c1 | c1
  · refine j_tabIn (tgt := 28) hx hb 0 c1 (by decide) (by decide) dX8_isEvent_1 (by decide) (by decide) rfl (by decide) ?_
    refine lv_iload_n hx hb dX8_isEvent_28 rfl (lv_at hl 1 rfl) ?_
    refine j_const hx hb dX8_isEvent_29 ?_
    refine j_si hx hb dX8_isEvent_30 (by decide +kernel) ?_
    refine k_S (As := [.int (J v), .int (J 1), .int (J 500)]) (rest := []) (v := .int (J (pI (1 ≤ v ∧ v ≤ 500)))) hx hb hml hown hts hK hl.1 (c_X8_isWithin l G v 1 500 ((by omega)) ((by omega)) ((by omega))) (va_cwS 3 hts gX8_isEvent_X8_isWithin rfl rfl rfl (by decide +kernel) ⟨Nat.le_of_ble_eq_true rfl, Nat.le_of_ble_eq_true rfl⟩) trivial rfl rfl (Nat.le_of_ble_eq_true rfl) dX8_isEvent_33 ⟨Nat.zero_le _, Nat.zero_le _⟩ ?_
    exact r_z hx hb hr hlk (nz_pI _) (congrArg (fun z => Value.int (J z)) (show (pI (1 ≤ v ∧ v ≤ 500) : Int) = pI ((k = 0 ∧ 1 ≤ v ∧ v ≤ 500) ∨ (k = 1 ∧ 0 ≤ v ∧ v ≤ 3) ∨ (k = 2 ∧ 1 ≤ v ∧ v ≤ 900)) from pI_eq (by omega))) dX8_isEvent_36
  · refine j_tabIn (tgt := 37) hx hb 1 c1 (by decide) (by decide) dX8_isEvent_1 (by decide) (by decide) rfl (by decide) ?_
    refine lv_iload_n hx hb dX8_isEvent_37 rfl (lv_at hl 1 rfl) ?_
    refine j_const hx hb dX8_isEvent_38 ?_
    refine j_const hx hb dX8_isEvent_39 ?_
    refine k_S (As := [.int (J v), .int (J 0), .int (J 3)]) (rest := []) (v := .int (J (pI (0 ≤ v ∧ v ≤ 3)))) hx hb hml hown hts hK hl.1 (c_X8_isWithin l G v 0 3 ((by omega)) ((by omega)) ((by omega))) (va_cwS 3 hts gX8_isEvent_X8_isWithin rfl rfl rfl (by decide +kernel) ⟨Nat.le_of_ble_eq_true rfl, Nat.le_of_ble_eq_true rfl⟩) trivial rfl rfl (Nat.le_of_ble_eq_true rfl) dX8_isEvent_40 ⟨Nat.zero_le _, Nat.zero_le _⟩ ?_
    exact r_z hx hb hr hlk (nz_pI _) (congrArg (fun z => Value.int (J z)) (show (pI (0 ≤ v ∧ v ≤ 3) : Int) = pI ((k = 0 ∧ 1 ≤ v ∧ v ≤ 500) ∨ (k = 1 ∧ 0 ≤ v ∧ v ≤ 3) ∨ (k = 2 ∧ 1 ≤ v ∧ v ≤ 900)) from pI_eq (by omega))) dX8_isEvent_43
  · refine j_tabIn (tgt := 44) hx hb 2 c1 (by decide) (by decide) dX8_isEvent_1 (by decide) (by decide) rfl (by decide) ?_
    refine lv_iload_n hx hb dX8_isEvent_44 rfl (lv_at hl 1 rfl) ?_
    refine j_const hx hb dX8_isEvent_45 ?_
    refine j_si hx hb dX8_isEvent_46 (by decide +kernel) ?_
    refine k_S (As := [.int (J v), .int (J 1), .int (J 900)]) (rest := []) (v := .int (J (pI (1 ≤ v ∧ v ≤ 900)))) hx hb hml hown hts hK hl.1 (c_X8_isWithin l G v 1 900 ((by omega)) ((by omega)) ((by omega))) (va_cwS 3 hts gX8_isEvent_X8_isWithin rfl rfl rfl (by decide +kernel) ⟨Nat.le_of_ble_eq_true rfl, Nat.le_of_ble_eq_true rfl⟩) trivial rfl rfl (Nat.le_of_ble_eq_true rfl) dX8_isEvent_49 ⟨Nat.zero_le _, Nat.zero_le _⟩ ?_
    exact r_z hx hb hr hlk (nz_pI _) (congrArg (fun z => Value.int (J z)) (show (pI (1 ≤ v ∧ v ≤ 900) : Int) = pI ((k = 0 ∧ 1 ≤ v ∧ v ≤ 500) ∨ (k = 1 ∧ 0 ≤ v ∧ v ≤ 3) ∨ (k = 2 ∧ 1 ≤ v ∧ v ≤ 900)) from pI_eq (by omega))) dX8_isEvent_52
  · refine j_tabOut (tgt := 53) hx hb (by omega) (by omega) dX8_isEvent_1 c1 (by decide) ?_
    refine j_const hx hb dX8_isEvent_53 ?_
    exact r_z hx hb hr hlk rfl (congrArg (fun z => Value.int (J z)) (show (0 : Int) = pI ((k = 0 ∧ 1 ≤ v ∧ v ≤ 500) ∨ (k = 1 ∧ 0 ≤ v ∧ v ≤ 3) ∨ (k = 2 ∧ 1 ≤ v ∧ v ≤ 900)) from (pI_f (by omega)).symm)) dX8_isEvent_54

abbrev rmX9_isValue : Room := { frames := 1, cells := 0, slots := 0, locals := 22 }
set_option maxHeartbeats 4000000 in
set_option maxRecDepth 100000 in
theorem c_X9_isValue (l : Launch) (G : GG) (k v : Int) (g_k : -2147483648 ≤ k ∧ k < 2147483648) (g_v : -2147483648 ≤ v ∧ v < 2147483648) : MP l G yX9_isValue wsX9_isValue rmX9_isValue [.int (J k), .int (J v)] (fun H => True) (.int (J (pI ((k = 0 ∧ 1 ≤ v ∧ v ≤ 500) ∨ (k = 1 ∧ 0 ≤ v ∧ v ≤ 3) ∨ (k = 2 ∧ 1 ≤ v ∧ v ≤ 900)))) : Value) := by
  refine MP.of (cc := cX9_isValue) (maxL := 2) (ret := (some .boolean)) (by decide) rfl (Nat.le_of_ble_eq_true rfl) ?_
  intro p e s m below meth c hx hb hr hml hown hts hlk hK hP ls hl
  have hown : s.vm.findClass RX9 = some m.cls := hown
  have hl : lv_has ls 2 [(0, .int (J k)), (1, .int (J v))] := hl
  refine lv_iload_n hx hb dX9_isValue_0 rfl (lv_at hl 0 rfl) ?_
  refine j_ne0 (tgt := 15) hx hb (by omega) (by omega) dX9_isValue_1 (by decide) (fun c1 => ?_) (fun c1 => ?_)
  · refine lv_iload_n hx hb dX9_isValue_15 rfl (lv_at hl 0 rfl) ?_
    refine j_const hx hb dX9_isValue_16 ?_
    refine j_cne (tgt := 29) hx hb (by omega) (by omega) (by decide) (by decide) dX9_isValue_17 (by decide) (fun c17 => ?_) (fun c17 => ?_)
    · refine lv_iload_n hx hb dX9_isValue_29 rfl (lv_at hl 0 rfl) ?_
      refine j_const hx hb dX9_isValue_30 ?_
      refine j_cne (tgt := 49) hx hb (by omega) (by omega) (by decide) (by decide) dX9_isValue_31 (by decide) (fun c31 => ?_) (fun c31 => ?_)
      · refine j_const hx hb dX9_isValue_49 ?_
        exact r_z hx hb hr hlk rfl (congrArg (fun z => Value.int (J z)) (show (0 : Int) = pI ((k = 0 ∧ 1 ≤ v ∧ v ≤ 500) ∨ (k = 1 ∧ 0 ≤ v ∧ v ≤ 3) ∨ (k = 2 ∧ 1 ≤ v ∧ v ≤ 900)) from (pI_f (by omega)).symm)) dX9_isValue_50
      · refine lv_iload_n hx hb dX9_isValue_34 rfl (lv_at hl 1 rfl) ?_
        refine j_const hx hb dX9_isValue_35 ?_
        refine j_si hx hb dX9_isValue_36 (by decide +kernel) ?_
        refine k_S (As := [.int (J v), .int (J 1), .int (J 900)]) (rest := []) (v := .int (J (pI (1 ≤ v ∧ v ≤ 900)))) hx hb hml hown hts hK hl.1 (c_X9_in l G v 1 900 ((by omega)) ((by omega)) ((by omega))) (va_cwS 3 hts gX9_isValue_X9_in rfl rfl rfl (by decide +kernel) ⟨Nat.le_of_ble_eq_true rfl, Nat.le_of_ble_eq_true rfl⟩) trivial rfl rfl (Nat.le_of_ble_eq_true rfl) dX9_isValue_39 ⟨Nat.zero_le _, Nat.zero_le _⟩ ?_
        refine j_eqP (tgt := 49) hx hb dX9_isValue_42 (by decide) (fun c42 => ?_) (fun c42 => ?_)
        · refine j_const hx hb dX9_isValue_49 ?_
          exact r_z hx hb hr hlk rfl (congrArg (fun z => Value.int (J z)) (show (0 : Int) = pI ((k = 0 ∧ 1 ≤ v ∧ v ≤ 500) ∨ (k = 1 ∧ 0 ≤ v ∧ v ≤ 3) ∨ (k = 2 ∧ 1 ≤ v ∧ v ≤ 900)) from (pI_f (by omega)).symm)) dX9_isValue_50
        · refine j_const hx hb dX9_isValue_45 ?_
          refine lv_goto (tgt := 50) hx hb dX9_isValue_46 (by decide) ?_
          exact r_z hx hb hr hlk rfl (congrArg (fun z => Value.int (J z)) (show (1 : Int) = pI ((k = 0 ∧ 1 ≤ v ∧ v ≤ 500) ∨ (k = 1 ∧ 0 ≤ v ∧ v ≤ 3) ∨ (k = 2 ∧ 1 ≤ v ∧ v ≤ 900)) from (pI_t (by omega)).symm)) dX9_isValue_50
    · refine lv_iload_n hx hb dX9_isValue_20 rfl (lv_at hl 1 rfl) ?_
      refine j_const hx hb dX9_isValue_21 ?_
      refine j_const hx hb dX9_isValue_22 ?_
      refine k_S (As := [.int (J v), .int (J 0), .int (J 3)]) (rest := []) (v := .int (J (pI (0 ≤ v ∧ v ≤ 3)))) hx hb hml hown hts hK hl.1 (c_X9_in l G v 0 3 ((by omega)) ((by omega)) ((by omega))) (va_cwS 3 hts gX9_isValue_X9_in rfl rfl rfl (by decide +kernel) ⟨Nat.le_of_ble_eq_true rfl, Nat.le_of_ble_eq_true rfl⟩) trivial rfl rfl (Nat.le_of_ble_eq_true rfl) dX9_isValue_23 ⟨Nat.zero_le _, Nat.zero_le _⟩ ?_
      refine lv_goto (tgt := 50) hx hb dX9_isValue_26 (by decide) ?_
      exact r_z hx hb hr hlk (nz_pI _) (congrArg (fun z => Value.int (J z)) (show (pI (0 ≤ v ∧ v ≤ 3) : Int) = pI ((k = 0 ∧ 1 ≤ v ∧ v ≤ 500) ∨ (k = 1 ∧ 0 ≤ v ∧ v ≤ 3) ∨ (k = 2 ∧ 1 ≤ v ∧ v ≤ 900)) from pI_eq (by omega))) dX9_isValue_50
  · refine lv_iload_n hx hb dX9_isValue_4 rfl (lv_at hl 1 rfl) ?_
    refine j_const hx hb dX9_isValue_5 ?_
    refine j_si hx hb dX9_isValue_6 (by decide +kernel) ?_
    refine k_S (As := [.int (J v), .int (J 1), .int (J 500)]) (rest := []) (v := .int (J (pI (1 ≤ v ∧ v ≤ 500)))) hx hb hml hown hts hK hl.1 (c_X9_in l G v 1 500 ((by omega)) ((by omega)) ((by omega))) (va_cwS 3 hts gX9_isValue_X9_in rfl rfl rfl (by decide +kernel) ⟨Nat.le_of_ble_eq_true rfl, Nat.le_of_ble_eq_true rfl⟩) trivial rfl rfl (Nat.le_of_ble_eq_true rfl) dX9_isValue_9 ⟨Nat.zero_le _, Nat.zero_le _⟩ ?_
    refine lv_goto (tgt := 50) hx hb dX9_isValue_12 (by decide) ?_
    exact r_z hx hb hr hlk (nz_pI _) (congrArg (fun z => Value.int (J z)) (show (pI (1 ≤ v ∧ v ≤ 500) : Int) = pI ((k = 0 ∧ 1 ≤ v ∧ v ≤ 500) ∨ (k = 1 ∧ 0 ≤ v ∧ v ≤ 3) ∨ (k = 2 ∧ 1 ≤ v ∧ v ≤ 900)) from pI_eq (by omega))) dX9_isValue_50

abbrev rmX9_isDay : Room := { frames := 1, cells := 0, slots := 0, locals := 22 }
set_option maxHeartbeats 4000000 in
set_option maxRecDepth 100000 in
theorem c_X9_isDay (l : Launch) (G : GG) (v : Int) (g_v : -2147483648 ≤ v ∧ v < 2147483648) : MP l G yX9_isDay wsX9_isDay rmX9_isDay [.int (J v)] (fun H => True) (.int (J (pI (0 ≤ v ∧ v ≤ 3649))) : Value) := by
  refine MP.of (cc := cX9_isDay) (maxL := 1) (ret := (some .boolean)) (by decide) rfl (Nat.le_of_ble_eq_true rfl) ?_
  intro p e s m below meth c hx hb hr hml hown hts hlk hK hP ls hl
  have hown : s.vm.findClass RX9 = some m.cls := hown
  have hl : lv_has ls 1 [(0, .int (J v))] := hl
  refine lv_iload_n hx hb dX9_isDay_0 rfl (lv_at hl 0 rfl) ?_
  refine j_const hx hb dX9_isDay_1 ?_
  refine j_si hx hb dX9_isDay_2 (by decide +kernel) ?_
  refine k_S (As := [.int (J v), .int (J 0), .int (J 3649)]) (rest := []) (v := .int (J (pI (0 ≤ v ∧ v ≤ 3649)))) hx hb hml hown hts hK hl.1 (c_X9_in l G v 0 3649 ((by omega)) ((by omega)) ((by omega))) (va_cwS 3 hts gX9_isDay_X9_in rfl rfl rfl (by decide +kernel) ⟨Nat.le_of_ble_eq_true rfl, Nat.le_of_ble_eq_true rfl⟩) trivial rfl rfl (Nat.le_of_ble_eq_true rfl) dX9_isDay_5 ⟨Nat.zero_le _, Nat.zero_le _⟩ ?_
  exact r_z hx hb hr hlk (nz_pI _) (congrArg (fun z => Value.int (J z)) (show (pI (0 ≤ v ∧ v ≤ 3649) : Int) = pI (0 ≤ v ∧ v ≤ 3649) from rfl)) dX9_isDay_8

abbrev rmX9_isYear : Room := { frames := 1, cells := 0, slots := 0, locals := 22 }
set_option maxHeartbeats 4000000 in
set_option maxRecDepth 100000 in
theorem c_X9_isYear (l : Launch) (G : GG) (v : Int) (g_v : -2147483648 ≤ v ∧ v < 2147483648) : MP l G yX9_isYear wsX9_isYear rmX9_isYear [.int (J v)] (fun H => True) (.int (J (pI (0 ≤ v ∧ v ≤ 9))) : Value) := by
  refine MP.of (cc := cX9_isYear) (maxL := 1) (ret := (some .boolean)) (by decide) rfl (Nat.le_of_ble_eq_true rfl) ?_
  intro p e s m below meth c hx hb hr hml hown hts hlk hK hP ls hl
  have hown : s.vm.findClass RX9 = some m.cls := hown
  have hl : lv_has ls 1 [(0, .int (J v))] := hl
  refine lv_iload_n hx hb dX9_isYear_0 rfl (lv_at hl 0 rfl) ?_
  refine j_const hx hb dX9_isYear_1 ?_
  refine j_bi hx hb dX9_isYear_2 (by decide +kernel) ?_
  refine k_S (As := [.int (J v), .int (J 0), .int (J 9)]) (rest := []) (v := .int (J (pI (0 ≤ v ∧ v ≤ 9)))) hx hb hml hown hts hK hl.1 (c_X9_in l G v 0 9 ((by omega)) ((by omega)) ((by omega))) (va_cwS 3 hts gX9_isYear_X9_in rfl rfl rfl (by decide +kernel) ⟨Nat.le_of_ble_eq_true rfl, Nat.le_of_ble_eq_true rfl⟩) trivial rfl rfl (Nat.le_of_ble_eq_true rfl) dX9_isYear_4 ⟨Nat.zero_le _, Nat.zero_le _⟩ ?_
  exact r_z hx hb hr hlk (nz_pI _) (congrArg (fun z => Value.int (J z)) (show (pI (0 ≤ v ∧ v ≤ 9) : Int) = pI (0 ≤ v ∧ v ≤ 9) from rfl)) dX9_isYear_7

abbrev rmX8_billFor : Room := { frames := 0, cells := 0, slots := 0, locals := 0 }
set_option maxHeartbeats 4000000 in
set_option maxRecDepth 100000 in
theorem c_X8_billFor (l : Launch) (G : GG) (y p_ : Int) (h_y : 0 ≤ y ∧ y ≤ 20000000000) (h_p : 0 ≤ p_ ∧ p_ ≤ 3000) : MP l G yX8_billFor wsX8_billFor rmX8_billFor [.long (JL y), .int (J p_)] (fun H => True) (.int (J (y * p_ / 365000)) : Value) := by
  refine MP.of (cc := cX8_billFor) (maxL := 3) (ret := (some .int)) (by decide) rfl (Nat.le_of_ble_eq_true rfl) ?_
  intro p e s m below meth c hx hb hr hml hown hts hlk hK hP ls hl
  have hown : s.vm.findClass RX8 = some m.cls := hown
  have hl : lv_has ls 3 [(0, .long (JL y)), (2, .int (J p_))] := hl
  have lk0 := hts (.constantLong RX8 258 365000) (by decide +kernel)
  have hmm : 0 ≤ y * p_ ∧ y * p_ ≤ 20000000000 * 3000 := ⟨Int.mul_nonneg h_y.1 h_p.1, Int.mul_le_mul h_y.2 h_p.2 h_p.1 (by omega)⟩
  refine lv_lload_n hx hb dX8_billFor_0 rfl (lv_at hl 0 rfl) ?_
  refine lv_iload_n hx hb dX8_billFor_1 rfl (lv_at hl 1 rfl) ?_
  refine j_i2l hx hb (by omega) (by omega) dX8_billFor_2 ?_
  refine j_lmul hx hb dX8_billFor_3 ?_
  refine j_ldc2 hx hb hown lk0 (z := 365000) rfl dX8_billFor_4 ?_
  refine j_ldiv hx hb (by omega) (by omega) (by decide) (by decide) dX8_billFor_7 ?_
  refine j_l2i hx hb dX8_billFor_8 ?_
  exact r_i hx hb hr hlk (congrArg (fun z => Value.int (J z)) (show ((y * p_) / 365000 : Int) = y * p_ / 365000 from by omega)) dX8_billFor_9
end
section
abbrev rmX1_isFull : Room := { frames := 0, cells := 0, slots := 0, locals := 0 }
set_option maxHeartbeats 4000000 in
set_option maxRecDepth 100000 in
theorem c_X1_isFull (l : Launch) (G : GG) (q b : Nat) (L : List EvT) : MP l G yX1_isFull wsX1_isFull rmX1_isFull [.ref q] (fun H => Evs G H q b L) (.int (J (pI (12 ≤ L.length))) : Value) := by
  refine MP.of (cc := cX1_isFull) (maxL := 1) (ret := (some .boolean)) (by decide) rfl (Nat.le_of_ble_eq_true rfl) ?_
  intro p e s m below meth c hx hb hr hml hown hts hlk hK hP ls hl
  have hown : s.vm.findClass RX1 = some m.cls := hown
  have hl : lv_has ls 1 [(0, .ref q)] := hl
  have inX1_ : ∀ w ∈ u_ws RX1 TX1 2, w ∈ wsX1_isFull := by decide +kernel
  have lk0 := hts (.fieldLink RX1 17 "RateBook$Events" "told" "I") (by decide +kernel)
  have lk1 := hts (.fieldLink RX1 11 "RateBook$Events" "byDay" "[LRateBook$Event;") (by decide +kernel)
  obtain ⟨hE1, hE2, hE3, hE4, hE5⟩ := (show Evs G s.heap q b L from hP)
  refine lv_aload_n hx hb dX1_isFull_0 rfl (lv_at hl 0 rfl) ?_
  refine j_get (ci := 1) (v := .int (J ((L.length : Int)))) hx hb hts inX1_ hown hK hE1 rfl 1 (by decide) lk0 (fun _ h9 => h9) rfl dX1_isFull_1 ?_
  refine lv_aload_n hx hb dX1_isFull_4 rfl (lv_at hl 0 rfl) ?_
  refine j_get (ci := 1) (v := .ref b) hx hb hts inX1_ hown hK hE1 rfl 0 (by decide) lk1 (fun _ h9 => h9) rfl dX1_isFull_5 ?_
  refine j_alQ (C := RX0) hx hb hK hE2 rfl dX1_isFull_8 ?_
  refine j_re (y := 12) rfl ?_
  refine j_clt (tgt := 16) hx hb (by omega) (by omega) (by decide) (by decide) dX1_isFull_9 (by decide) (fun c9 => ?_) (fun c9 => ?_)
  · refine j_const hx hb dX1_isFull_16 ?_
    exact r_z hx hb hr hlk rfl (congrArg (fun z => Value.int (J z)) (show (0 : Int) = pI (12 ≤ L.length) from (pI_f (by omega)).symm)) dX1_isFull_17
  · refine j_const hx hb dX1_isFull_12 ?_
    refine lv_goto (tgt := 17) hx hb dX1_isFull_13 (by decide) ?_
    exact r_z hx hb hr hlk rfl (congrArg (fun z => Value.int (J z)) (show (1 : Int) = pI (12 ≤ L.length) from (pI_t (by omega)).symm)) dX1_isFull_17

abbrev rmX1_latestOf : Room := { frames := 0, cells := 0, slots := 0, locals := 0 }
set_option maxHeartbeats 4000000 in
set_option maxRecDepth 100000 in
theorem c_X1_latestOf (l : Launch) (G : GG) (q b : Nat) (L : List EvT) (k d : Int) (g_k : -2147483648 ≤ k ∧ k < 2147483648) (g_d : -2147483648 ≤ d ∧ d < 2147483648) : MP l G yX1_latestOf wsX1_latestOf rmX1_latestOf [.ref q, .int (J k), .int (J d)] (fun H => Evs G H q b L) (va_rf (Option.map eAd (lat L k d)) : Value) := by
  refine MP.of (cc := cX1_latestOf) (maxL := 6) (ret := (some (.object "RateBook$Event"))) (by decide) rfl (Nat.le_of_ble_eq_true rfl) ?_
  intro p e s m below meth c hx hb hr hml hown hts hlk hK hP ls hl
  have hown : s.vm.findClass RX1 = some m.cls := hown
  have hl : lv_has ls 6 [(0, .ref q), (1, .int (J k)), (2, .int (J d))] := hl
  have inX0_ : ∀ w ∈ u_ws RX0 TX0 4, w ∈ wsX1_latestOf := by decide +kernel
  have inX1_ : ∀ w ∈ u_ws RX1 TX1 2, w ∈ wsX1_latestOf := by decide +kernel
  have lk0 := hts (.fieldLink RX1 11 "RateBook$Events" "byDay" "[LRateBook$Event;") (by decide +kernel)
  have lk1 := hts (.fieldLink RX1 30 "RateBook$Event" "kind" "I") (by decide +kernel)
  have lk2 := hts (.fieldLink RX1 21 "RateBook$Event" "day" "I") (by decide +kernel)
  obtain ⟨hE1, hE2, hE3, hE4, hE5⟩ := (show Evs G s.heap q b L from hP)
  refine lv_null hx hb dX1_latestOf_0 ?_
  refine lv_astore_nN (lv' := [(3, .null), (0, .ref q), (1, .int (J k)), (2, .int (J d))]) hx hb dX1_latestOf_1 rfl hl (by decide) rfl (fun ls hl => ?_)
  refine j_const hx hb dX1_latestOf_2 ?_
  refine lv_istore (lv' := [(4, .int (J 0)), (3, .null), (0, .ref q), (1, .int (J k)), (2, .int (J d))]) hx hb dX1_latestOf_3 hl (by decide) rfl (fun ls hl => ?_)
  have lp5 : ∀ (n : Nat) (i : Int) (i0 : 0 ≤ i ∧ i ≤ 12) (hm : 12 - i < (n : Int)) (ls : Array Slot) (hl : lv_has ls 6 [(4, .int (J i)), (3, va_rf (Option.map eAd (lo (ls_ L (gLat k d)) none i))), (0, .ref q), (1, .int (J k)), (2, .int (J d))]), W p l e (headSpec wsX1_latestOf rmX1_latestOf).room s m ([.ref q, .int (J k), .int (J d)] : List Value).toArray below meth c s.heap [] 0 0 (MQ below (k2_QcV (va_rf (Option.map eAd (lat L k d)) : Value)) ([.ref q, .int (J k), .int (J d)] : List Value).toArray s 0 0 (fun _ => False)) (F0 m 5 ls []) := by
    intro n
    induction n with
    | zero =>
      intro i i0 hm ls hl
      exact absurd hm (by omega)
    | succ n ih5 =>
      intro i i0 hm ls hl
      refine lv_iload hx hb dX1_latestOf_5 (lv_at hl 0 rfl) ?_
      refine lv_aload_n hx hb dX1_latestOf_7 rfl (lv_at hl 2 rfl) ?_
      refine j_get (ci := 1) (v := .ref b) hx hb hts inX1_ hown hK hE1 rfl 0 (by decide) lk0 (fun _ h9 => h9) rfl dX1_latestOf_8 ?_
      refine j_alQ (C := RX0) hx hb hK hE2 rfl dX1_latestOf_11 ?_
      refine j_re (y := 12) rfl ?_
      refine j_cge (tgt := 56) hx hb (by omega) (by omega) (by decide) (by decide) dX1_latestOf_12 (by decide) (fun c12 => ?_) (fun c12 => ?_)
      · refine j_aload_nQ hx hb dX1_latestOf_56 rfl (lv_at hl 1 rfl) ?_
        exact r_a hx hb hr hlk (o := Option.map eAd (lo (ls_ L (gLat k d)) none i)) rfl (congrArg va_rf (show (Option.map eAd (lo (ls_ L (gLat k d)) none i) : Option Nat) = Option.map eAd (lat L k d) from by rw [lat_lo hE3 (by omega)])) dX1_latestOf_57
      · refine lv_aload_n hx hb dX1_latestOf_15 rfl (lv_at hl 2 rfl) ?_
        refine j_get (ci := 1) (v := .ref b) hx hb hts inX1_ hown hK hE1 rfl 0 (by decide) lk0 (fun _ h9 => h9) rfl dX1_latestOf_16 ?_
        refine lv_iload hx hb dX1_latestOf_19 (lv_at hl 0 rfl) ?_
        refine j_aald (C := RX0) hx hb hK hE2 rfl (by omega) (by omega) (by decide) dX1_latestOf_21 ?_
        rcases spE : L[(i).toNat]? with _ | e
        · refine j_qn (qL_n (by omega) spE) ?_
          refine lv_astoreN (lv' := [(5, .null), (4, .int (J i)), (3, va_rf (Option.map eAd (lo (ls_ L (gLat k d)) none i))), (0, .ref q), (1, .int (J k)), (2, .int (J d))]) hx hb dX1_latestOf_22 hl (by decide) rfl (fun ls hl => ?_)
          refine lv_aloadN hx hb dX1_latestOf_24 (lv_at hl 0 rfl) ?_
          refine lv_ifnullN (tgt := 50) hx hb dX1_latestOf_26 (by decide) ?_
          refine lv_iinc (v := J (i + 1)) (lv' := [(4, .int (J (i + 1))), (5, .null), (3, va_rf (Option.map eAd (lo (ls_ L (gLat k d)) none i))), (0, .ref q), (1, .int (J k)), (2, .int (J d))]) hx hb dX1_latestOf_50 hl (k := 1) rfl (J_add _ _) (by decide) (by simp [va_rf_cat]) (fun ls hl => ?_)
          refine lv_goto (tgt := 5) hx hb dX1_latestOf_53 (by decide) ?_
          exact ih5 (i + 1) (by omega) (by omega) _ (lv_sub hl [0, 2, 3, 4, 5] (by rw [show ((i + 1) : Int) = i + 1 from (by omega)]; rw [show (Option.map eAd (lo (ls_ L (gLat k d)) none (i + 1)) : Option Nat) = Option.map eAd (lo (ls_ L (gLat k d)) none i) from (by rw [lo_s _ _ (by omega)]; simp only [ls_, spE, gLat] <;> (repeat' split) <;> first | rfl | omega | (exfalso; omega))]; try rfl))
        · refine j_qs (b := eAd e) (qL_s (by omega) spE) ?_
          have hme : e ∈ L := List.mem_of_getElem? spE
          have hce : At G s.heap (eAd e) (eO 0 [.int (J (eNo e)), .int (J (eDy e)), .int (J (eKi e)), .int (J (eVa e))]) := hE4 e hme
          obtain ⟨ok1, ok2, ok3⟩ := hE5 e hme
          refine lv_astore (lv' := [(5, .ref (eAd e)), (4, .int (J i)), (3, va_rf (Option.map eAd (lo (ls_ L (gLat k d)) none i))), (0, .ref q), (1, .int (J k)), (2, .int (J d))]) hx hb dX1_latestOf_22 hl (by decide) rfl (fun ls hl => ?_)
          refine lv_aload hx hb dX1_latestOf_24 (lv_at hl 0 rfl) ?_
          refine lv_ifnull hx hb dX1_latestOf_26 ?_
          refine lv_aload hx hb dX1_latestOf_29 (lv_at hl 0 rfl) ?_
          refine j_get (ci := 0) (v := .int (J (eKi e))) hx hb hts inX0_ hown hK hce rfl 2 (by decide) lk1 (fun _ h9 => h9) rfl dX1_latestOf_31 ?_
          refine lv_iload_n hx hb dX1_latestOf_34 rfl (lv_at hl 4 rfl) ?_
          refine j_cne (tgt := 50) hx hb (by omega) (by omega) (by omega) (by omega) dX1_latestOf_35 (by decide) (fun c35 => ?_) (fun c35 => ?_)
          · refine lv_iinc (v := J (i + 1)) (lv' := [(4, .int (J (i + 1))), (5, .ref (eAd e)), (3, va_rf (Option.map eAd (lo (ls_ L (gLat k d)) none i))), (0, .ref q), (1, .int (J k)), (2, .int (J d))]) hx hb dX1_latestOf_50 hl (k := 1) rfl (J_add _ _) (by decide) (by simp [va_rf_cat]) (fun ls hl => ?_)
            refine lv_goto (tgt := 5) hx hb dX1_latestOf_53 (by decide) ?_
            exact ih5 (i + 1) (by omega) (by omega) _ (lv_sub hl [0, 2, 3, 4, 5] (by rw [show ((i + 1) : Int) = i + 1 from (by omega)]; rw [show (Option.map eAd (lo (ls_ L (gLat k d)) none (i + 1)) : Option Nat) = Option.map eAd (lo (ls_ L (gLat k d)) none i) from (by rw [lo_s _ _ (by omega)]; simp only [ls_, spE, gLat] <;> (repeat' split) <;> first | rfl | omega | (exfalso; omega))]; try rfl))
          · refine lv_aload hx hb dX1_latestOf_38 (lv_at hl 0 rfl) ?_
            refine j_get (ci := 0) (v := .int (J (eDy e))) hx hb hts inX0_ hown hK hce rfl 1 (by decide) lk2 (fun _ h9 => h9) rfl dX1_latestOf_40 ?_
            refine lv_iload_n hx hb dX1_latestOf_43 rfl (lv_at hl 5 rfl) ?_
            refine j_cgt (tgt := 50) hx hb (by omega) (by omega) (by omega) (by omega) dX1_latestOf_44 (by decide) (fun c44 => ?_) (fun c44 => ?_)
            · refine lv_iinc (v := J (i + 1)) (lv' := [(4, .int (J (i + 1))), (5, .ref (eAd e)), (3, va_rf (Option.map eAd (lo (ls_ L (gLat k d)) none i))), (0, .ref q), (1, .int (J k)), (2, .int (J d))]) hx hb dX1_latestOf_50 hl (k := 1) rfl (J_add _ _) (by decide) (by simp [va_rf_cat]) (fun ls hl => ?_)
              refine lv_goto (tgt := 5) hx hb dX1_latestOf_53 (by decide) ?_
              exact ih5 (i + 1) (by omega) (by omega) _ (lv_sub hl [0, 2, 3, 4, 5] (by rw [show ((i + 1) : Int) = i + 1 from (by omega)]; rw [show (Option.map eAd (lo (ls_ L (gLat k d)) none (i + 1)) : Option Nat) = Option.map eAd (lo (ls_ L (gLat k d)) none i) from (by rw [lo_s _ _ (by omega)]; simp only [ls_, spE, gLat] <;> (repeat' split) <;> first | rfl | omega | (exfalso; omega))]; try rfl))
            · refine lv_aload hx hb dX1_latestOf_47 (lv_at hl 0 rfl) ?_
              refine lv_astore_n (lv' := [(3, .ref (eAd e)), (5, .ref (eAd e)), (4, .int (J i)), (0, .ref q), (1, .int (J k)), (2, .int (J d))]) hx hb dX1_latestOf_49 rfl hl (by decide) rfl (fun ls hl => ?_)
              refine lv_iinc (v := J (i + 1)) (lv' := [(4, .int (J (i + 1))), (3, .ref (eAd e)), (5, .ref (eAd e)), (0, .ref q), (1, .int (J k)), (2, .int (J d))]) hx hb dX1_latestOf_50 hl (k := 2) rfl (J_add _ _) (by decide) rfl (fun ls hl => ?_)
              refine lv_goto (tgt := 5) hx hb dX1_latestOf_53 (by decide) ?_
              exact ih5 (i + 1) (by omega) (by omega) _ (lv_sub hl [0, 1, 3, 4, 5] (by rw [show ((i + 1) : Int) = i + 1 from (by omega)]; rw [show (Option.map eAd (lo (ls_ L (gLat k d)) none (i + 1)) : Option Nat) = some (eAd e) from (by rw [lo_s _ _ (by omega)]; simp only [ls_, spE, gLat] <;> (repeat' split) <;> first | rfl | omega | (exfalso; omega))]; try rfl))
  exact lp5 13 0 (by omega) (by omega) _ (lv_sub hl [0, 1, 2, 3, 4] (by rw [show (Option.map eAd (lo (ls_ L (gLat k d)) none 0) : Option Nat) = none from (by rfl)]; try rfl))

abbrev rmX1_cutDown : Room := { frames := 0, cells := 0, slots := 0, locals := 0 }
set_option maxHeartbeats 4000000 in
set_option maxRecDepth 100000 in
theorem c_X1_cutDown (l : Launch) (G : GG) (q b : Nat) (L : List EvT) (v f t : Int) (h_v : 0 ≤ v ∧ v ≤ 50000000) (g_f : -2147483648 ≤ f ∧ f < 2147483648) (g_t : -2147483648 ≤ t ∧ t < 2147483648) : MP l G yX1_cutDown wsX1_cutDown rmX1_cutDown [.ref q, .long (JL v), .int (J f), .int (J t)] (fun H => Evs G H q b L) (.long (JL (ctd L f t v)) : Value) := by
  refine MP.of (cc := cX1_cutDown) (maxL := 9) (ret := (some .long)) (by decide) rfl (Nat.le_of_ble_eq_true rfl) ?_
  intro p e s m below meth c hx hb hr hml hown hts hlk hK hP ls hl
  have hown : s.vm.findClass RX1 = some m.cls := hown
  have hl : lv_has ls 9 [(0, .ref q), (1, .long (JL v)), (3, .int (J f)), (4, .int (J t))] := hl
  have inX0_ : ∀ w ∈ u_ws RX0 TX0 4, w ∈ wsX1_cutDown := by decide +kernel
  have inX1_ : ∀ w ∈ u_ws RX1 TX1 2, w ∈ wsX1_cutDown := by decide +kernel
  have lk0 := hts (.fieldLink RX1 11 "RateBook$Events" "byDay" "[LRateBook$Event;") (by decide +kernel)
  have lk1 := hts (.fieldLink RX1 30 "RateBook$Event" "kind" "I") (by decide +kernel)
  have lk2 := hts (.fieldLink RX1 21 "RateBook$Event" "day" "I") (by decide +kernel)
  have lk3 := hts (.fieldLink RX1 33 "RateBook$Event" "value" "I") (by decide +kernel)
  have lk4 := hts (.constantLong RX1 36 1000) (by decide +kernel)
  obtain ⟨hE1, hE2, hE3, hE4, hE5⟩ := (show Evs G s.heap q b L from hP)
  refine lv_lload_n hx hb dX1_cutDown_0 rfl (lv_at hl 1 rfl) ?_
  refine lv_lstore (lv' := [(5, .long (JL v)), (0, .ref q), (1, .long (JL v)), (3, .int (J f)), (4, .int (J t))]) hx hb dX1_cutDown_1 hl (by decide) rfl (fun ls hl => ?_)
  refine j_const hx hb dX1_cutDown_3 ?_
  refine lv_istore (lv' := [(7, .int (J 0)), (5, .long (JL v)), (0, .ref q), (1, .long (JL v)), (3, .int (J f)), (4, .int (J t))]) hx hb dX1_cutDown_4 hl (by decide) rfl (fun ls hl => ?_)
  have lp6 : ∀ (n : Nat) (i : Int) (i0 : 0 ≤ i ∧ i ≤ 12) (hm : 12 - i < (n : Int)) (ls : Array Slot) (hl : lv_has ls 9 [(7, .int (J i)), (5, .long (JL (lo (ls_ L (gCtd f t)) v i))), (0, .ref q), (1, .long (JL v)), (3, .int (J f)), (4, .int (J t))]), W p l e (headSpec wsX1_cutDown rmX1_cutDown).room s m ([.ref q, .long (JL v), .int (J f), .int (J t)] : List Value).toArray below meth c s.heap [] 0 0 (MQ below (k2_QcV (.long (JL (ctd L f t v)) : Value)) ([.ref q, .long (JL v), .int (J f), .int (J t)] : List Value).toArray s 0 0 (fun _ => False)) (F0 m 6 ls []) := by
    intro n
    induction n with
    | zero =>
      intro i i0 hm ls hl
      exact absurd hm (by omega)
    | succ n ih6 =>
      intro i i0 hm ls hl
      have hrg := gCtd_rng (f := f) (t := t) hE5 h_v.1 h_v.2 i0.1
      refine lv_iload hx hb dX1_cutDown_6 (lv_at hl 0 rfl) ?_
      refine lv_aload_n hx hb dX1_cutDown_8 rfl (lv_at hl 2 rfl) ?_
      refine j_get (ci := 1) (v := .ref b) hx hb hts inX1_ hown hK hE1 rfl 0 (by decide) lk0 (fun _ h9 => h9) rfl dX1_cutDown_9 ?_
      refine j_alQ (C := RX0) hx hb hK hE2 rfl dX1_cutDown_12 ?_
      refine j_re (y := 12) rfl ?_
      refine j_cge (tgt := 83) hx hb (by omega) (by omega) (by decide) (by decide) dX1_cutDown_13 (by decide) (fun c13 => ?_) (fun c13 => ?_)
      · refine lv_lload hx hb dX1_cutDown_83 (lv_at hl 1 rfl) ?_
        exact r_l hx hb hr hlk (congrArg (fun z => Value.long (JL z)) (show (lo (ls_ L (gCtd f t)) v i : Int) = ctd L f t v from by rw [ctd_lo hE3 (by omega)])) dX1_cutDown_85
      · refine lv_aload_n hx hb dX1_cutDown_16 rfl (lv_at hl 2 rfl) ?_
        refine j_get (ci := 1) (v := .ref b) hx hb hts inX1_ hown hK hE1 rfl 0 (by decide) lk0 (fun _ h9 => h9) rfl dX1_cutDown_17 ?_
        refine lv_iload hx hb dX1_cutDown_20 (lv_at hl 0 rfl) ?_
        refine j_aald (C := RX0) hx hb hK hE2 rfl (by omega) (by omega) (by decide) dX1_cutDown_22 ?_
        rcases spE : L[(i).toNat]? with _ | e
        · refine j_qn (qL_n (by omega) spE) ?_
          refine lv_astoreN (lv' := [(8, .null), (7, .int (J i)), (5, .long (JL (lo (ls_ L (gCtd f t)) v i))), (0, .ref q), (1, .long (JL v)), (3, .int (J f)), (4, .int (J t))]) hx hb dX1_cutDown_23 hl (by decide) rfl (fun ls hl => ?_)
          refine lv_aloadN hx hb dX1_cutDown_25 (lv_at hl 0 rfl) ?_
          refine lv_ifnullN (tgt := 77) hx hb dX1_cutDown_27 (by decide) ?_
          refine lv_iinc (v := J (i + 1)) (lv' := [(7, .int (J (i + 1))), (8, .null), (5, .long (JL (lo (ls_ L (gCtd f t)) v i))), (0, .ref q), (1, .long (JL v)), (3, .int (J f)), (4, .int (J t))]) hx hb dX1_cutDown_77 hl (k := 1) rfl (J_add _ _) (by decide) rfl (fun ls hl => ?_)
          refine lv_goto (tgt := 6) hx hb dX1_cutDown_80 (by decide) ?_
          exact ih6 (i + 1) (by omega) (by omega) _ (lv_sub hl [0, 2, 3, 4, 5, 6] (by rw [show ((i + 1) : Int) = i + 1 from (by omega)]; rw [show (lo (ls_ L (gCtd f t)) v (i + 1) : Int) = lo (ls_ L (gCtd f t)) v i from (by rw [lo_s _ _ (by omega)]; simp only [ls_, spE, gCtd] <;> (repeat' split) <;> first | rfl | omega | (exfalso; omega))]; try rfl))
        · refine j_qs (b := eAd e) (qL_s (by omega) spE) ?_
          have hme : e ∈ L := List.mem_of_getElem? spE
          have hce : At G s.heap (eAd e) (eO 0 [.int (J (eNo e)), .int (J (eDy e)), .int (J (eKi e)), .int (J (eVa e))]) := hE4 e hme
          obtain ⟨ok1, ok2, ok3⟩ := hE5 e hme
          refine lv_astore (lv' := [(8, .ref (eAd e)), (7, .int (J i)), (5, .long (JL (lo (ls_ L (gCtd f t)) v i))), (0, .ref q), (1, .long (JL v)), (3, .int (J f)), (4, .int (J t))]) hx hb dX1_cutDown_23 hl (by decide) rfl (fun ls hl => ?_)
          refine lv_aload hx hb dX1_cutDown_25 (lv_at hl 0 rfl) ?_
          refine lv_ifnull hx hb dX1_cutDown_27 ?_
          refine lv_aload hx hb dX1_cutDown_30 (lv_at hl 0 rfl) ?_
          refine j_get (ci := 0) (v := .int (J (eKi e))) hx hb hts inX0_ hown hK hce rfl 2 (by decide) lk1 (fun _ h9 => h9) rfl dX1_cutDown_32 ?_
          refine j_const hx hb dX1_cutDown_35 ?_
          refine j_cne (tgt := 77) hx hb (by omega) (by omega) (by decide) (by decide) dX1_cutDown_36 (by decide) (fun c36 => ?_) (fun c36 => ?_)
          · refine lv_iinc (v := J (i + 1)) (lv' := [(7, .int (J (i + 1))), (8, .ref (eAd e)), (5, .long (JL (lo (ls_ L (gCtd f t)) v i))), (0, .ref q), (1, .long (JL v)), (3, .int (J f)), (4, .int (J t))]) hx hb dX1_cutDown_77 hl (k := 1) rfl (J_add _ _) (by decide) rfl (fun ls hl => ?_)
            refine lv_goto (tgt := 6) hx hb dX1_cutDown_80 (by decide) ?_
            exact ih6 (i + 1) (by omega) (by omega) _ (lv_sub hl [0, 2, 3, 4, 5, 6] (by rw [show ((i + 1) : Int) = i + 1 from (by omega)]; rw [show (lo (ls_ L (gCtd f t)) v (i + 1) : Int) = lo (ls_ L (gCtd f t)) v i from (by rw [lo_s _ _ (by omega)]; simp only [ls_, spE, gCtd] <;> (repeat' split) <;> first | rfl | omega | (exfalso; omega))]; try rfl))
          · refine lv_aload hx hb dX1_cutDown_39 (lv_at hl 0 rfl) ?_
            refine j_get (ci := 0) (v := .int (J (eDy e))) hx hb hts inX0_ hown hK hce rfl 1 (by decide) lk2 (fun _ h9 => h9) rfl dX1_cutDown_41 ?_
            refine lv_iload_n hx hb dX1_cutDown_44 rfl (lv_at hl 5 rfl) ?_
            refine j_clt (tgt := 77) hx hb (by omega) (by omega) (by omega) (by omega) dX1_cutDown_45 (by decide) (fun c45 => ?_) (fun c45 => ?_)
            · refine lv_iinc (v := J (i + 1)) (lv' := [(7, .int (J (i + 1))), (8, .ref (eAd e)), (5, .long (JL (lo (ls_ L (gCtd f t)) v i))), (0, .ref q), (1, .long (JL v)), (3, .int (J f)), (4, .int (J t))]) hx hb dX1_cutDown_77 hl (k := 1) rfl (J_add _ _) (by decide) rfl (fun ls hl => ?_)
              refine lv_goto (tgt := 6) hx hb dX1_cutDown_80 (by decide) ?_
              exact ih6 (i + 1) (by omega) (by omega) _ (lv_sub hl [0, 2, 3, 4, 5, 6] (by rw [show ((i + 1) : Int) = i + 1 from (by omega)]; rw [show (lo (ls_ L (gCtd f t)) v (i + 1) : Int) = lo (ls_ L (gCtd f t)) v i from (by rw [lo_s _ _ (by omega)]; simp only [ls_, spE, gCtd] <;> (repeat' split) <;> first | rfl | omega | (exfalso; omega))]; try rfl))
            · refine lv_aload hx hb dX1_cutDown_48 (lv_at hl 0 rfl) ?_
              refine j_get (ci := 0) (v := .int (J (eDy e))) hx hb hts inX0_ hown hK hce rfl 1 (by decide) lk2 (fun _ h9 => h9) rfl dX1_cutDown_50 ?_
              refine lv_iload hx hb dX1_cutDown_53 (lv_at hl 6 rfl) ?_
              refine j_cgt (tgt := 77) hx hb (by omega) (by omega) (by omega) (by omega) dX1_cutDown_55 (by decide) (fun c55 => ?_) (fun c55 => ?_)
              · refine lv_iinc (v := J (i + 1)) (lv' := [(7, .int (J (i + 1))), (8, .ref (eAd e)), (5, .long (JL (lo (ls_ L (gCtd f t)) v i))), (0, .ref q), (1, .long (JL v)), (3, .int (J f)), (4, .int (J t))]) hx hb dX1_cutDown_77 hl (k := 1) rfl (J_add _ _) (by decide) rfl (fun ls hl => ?_)
                refine lv_goto (tgt := 6) hx hb dX1_cutDown_80 (by decide) ?_
                exact ih6 (i + 1) (by omega) (by omega) _ (lv_sub hl [0, 2, 3, 4, 5, 6] (by rw [show ((i + 1) : Int) = i + 1 from (by omega)]; rw [show (lo (ls_ L (gCtd f t)) v (i + 1) : Int) = lo (ls_ L (gCtd f t)) v i from (by rw [lo_s _ _ (by omega)]; simp only [ls_, spE, gCtd] <;> (repeat' split) <;> first | rfl | omega | (exfalso; omega))]; try rfl))
              · have hmm := mulb (a := lo (ls_ L (gCtd f t)) v i) (b := 1000 - eVa e) (A := 50000000) (B := 1000) hrg.1 hrg.2 (by omega) (by omega)
                refine lv_lload hx hb dX1_cutDown_58 (lv_at hl 2 rfl) ?_
                refine j_si hx hb dX1_cutDown_60 (by decide +kernel) ?_
                refine lv_aload hx hb dX1_cutDown_63 (lv_at hl 0 rfl) ?_
                refine j_get (ci := 0) (v := .int (J (eVa e))) hx hb hts inX0_ hown hK hce rfl 3 (by decide) lk3 (fun _ h9 => h9) rfl dX1_cutDown_65 ?_
                refine j_sub hx hb dX1_cutDown_68 ?_
                refine j_i2l hx hb (by omega) (by omega) dX1_cutDown_69 ?_
                refine j_lmul hx hb dX1_cutDown_70 ?_
                refine j_ldc2 hx hb hown lk4 (z := 1000) rfl dX1_cutDown_71 ?_
                refine j_ldiv hx hb (by omega) (by omega) (by decide) (by decide) dX1_cutDown_74 ?_
                refine lv_lstore (lv' := [(5, .long (JL (((lo (ls_ L (gCtd f t)) v i) * (1000 - (eVa e))) / 1000))), (8, .ref (eAd e)), (7, .int (J i)), (0, .ref q), (1, .long (JL v)), (3, .int (J f)), (4, .int (J t))]) hx hb dX1_cutDown_75 hl (by decide) rfl (fun ls hl => ?_)
                refine lv_iinc (v := J (i + 1)) (lv' := [(7, .int (J (i + 1))), (5, .long (JL (((lo (ls_ L (gCtd f t)) v i) * (1000 - (eVa e))) / 1000))), (8, .ref (eAd e)), (0, .ref q), (1, .long (JL v)), (3, .int (J f)), (4, .int (J t))]) hx hb dX1_cutDown_77 hl (k := 2) rfl (J_add _ _) (by decide) rfl (fun ls hl => ?_)
                refine lv_goto (tgt := 6) hx hb dX1_cutDown_80 (by decide) ?_
                exact ih6 (i + 1) (by omega) (by omega) _ (lv_sub hl [0, 1, 3, 4, 5, 6] (by rw [show ((i + 1) : Int) = i + 1 from (by omega)]; rw [show (lo (ls_ L (gCtd f t)) v (i + 1) : Int) = ((lo (ls_ L (gCtd f t)) v i) * (1000 - (eVa e))) / 1000 from (by rw [lo_s _ _ (by omega)]; simp only [ls_, spE, gCtd] <;> (repeat' split) <;> first | rfl | omega | (exfalso; omega))]; try rfl))
  exact lp6 13 0 (by omega) (by omega) _ (lv_sub hl [0, 1, 2, 3, 4, 5] (by rw [show (lo (ls_ L (gCtd f t)) v 0 : Int) = v from (by rfl)]; try rfl))

abbrev rmX1_nextChange : Room := { frames := 1, cells := 0, slots := 0, locals := 22 }
set_option maxHeartbeats 4000000 in
set_option maxRecDepth 100000 in
theorem c_X1_nextChange (l : Launch) (G : GG) (q b : Nat) (L : List EvT) (d nx : Int) (h_d : 0 ≤ d ∧ d < nx) (h_n : nx ≤ 3650) : MP l G yX1_nextChange wsX1_nextChange rmX1_nextChange [.ref q, .int (J d), .int (J nx)] (fun H => Evs G H q b L) (.int (J (nxE L d nx)) : Value) := by
  refine MP.of (cc := cX1_nextChange) (maxL := 6) (ret := (some .int)) (by decide) rfl (Nat.le_of_ble_eq_true rfl) ?_
  intro p e s m below meth c hx hb hr hml hown hts hlk hK hP ls hl
  have hown : s.vm.findClass RX1 = some m.cls := hown
  have hl : lv_has ls 6 [(0, .ref q), (1, .int (J d)), (2, .int (J nx))] := hl
  have inX0_ : ∀ w ∈ u_ws RX0 TX0 4, w ∈ wsX1_nextChange := by decide +kernel
  have inX1_ : ∀ w ∈ u_ws RX1 TX1 2, w ∈ wsX1_nextChange := by decide +kernel
  have lk0 := hts (.fieldLink RX1 11 "RateBook$Events" "byDay" "[LRateBook$Event;") (by decide +kernel)
  have lk1 := hts (.fieldLink RX1 21 "RateBook$Event" "day" "I") (by decide +kernel)
  have lk2 := hts (.initialized RX8) (by decide +kernel)
  have lk3 := hts (.static yX8_sooner) (by decide +kernel)
  obtain ⟨hE1, hE2, hE3, hE4, hE5⟩ := (show Evs G s.heap q b L from hP)
  refine lv_iload_n hx hb dX1_nextChange_0 rfl (lv_at hl 2 rfl) ?_
  refine lv_istore_n (lv' := [(3, .int (J nx)), (0, .ref q), (1, .int (J d)), (2, .int (J nx))]) hx hb dX1_nextChange_1 rfl hl (by decide) rfl (fun ls hl => ?_)
  refine j_const hx hb dX1_nextChange_2 ?_
  refine lv_istore (lv' := [(4, .int (J 0)), (3, .int (J nx)), (0, .ref q), (1, .int (J d)), (2, .int (J nx))]) hx hb dX1_nextChange_3 hl (by decide) rfl (fun ls hl => ?_)
  have lp5 : ∀ (n : Nat) (i : Int) (i0 : 0 ≤ i ∧ i ≤ 12) (hm : 12 - i < (n : Int)) (ls : Array Slot) (hl : lv_has ls 6 [(4, .int (J i)), (3, .int (J (lo (ls_ L (gNx d)) nx i))), (0, .ref q), (1, .int (J d)), (2, .int (J nx))]), W p l e (headSpec wsX1_nextChange rmX1_nextChange).room s m ([.ref q, .int (J d), .int (J nx)] : List Value).toArray below meth c s.heap [] 0 0 (MQ below (k2_QcV (.int (J (nxE L d nx)) : Value)) ([.ref q, .int (J d), .int (J nx)] : List Value).toArray s 0 0 (fun _ => False)) (F0 m 5 ls []) := by
    intro n
    induction n with
    | zero =>
      intro i i0 hm ls hl
      exact absurd hm (by omega)
    | succ n ih5 =>
      intro i i0 hm ls hl
      have hrg := gNx_rng (L := L) h_d.2 i0.1
      refine lv_iload hx hb dX1_nextChange_5 (lv_at hl 0 rfl) ?_
      refine lv_aload_n hx hb dX1_nextChange_7 rfl (lv_at hl 2 rfl) ?_
      refine j_get (ci := 1) (v := .ref b) hx hb hts inX1_ hown hK hE1 rfl 0 (by decide) lk0 (fun _ h9 => h9) rfl dX1_nextChange_8 ?_
      refine j_alQ (C := RX0) hx hb hK hE2 rfl dX1_nextChange_11 ?_
      refine j_re (y := 12) rfl ?_
      refine j_cge (tgt := 60) hx hb (by omega) (by omega) (by decide) (by decide) dX1_nextChange_12 (by decide) (fun c12 => ?_) (fun c12 => ?_)
      · refine lv_iload_n hx hb dX1_nextChange_60 rfl (lv_at hl 1 rfl) ?_
        exact r_i hx hb hr hlk (congrArg (fun z => Value.int (J z)) (show (lo (ls_ L (gNx d)) nx i : Int) = nxE L d nx from by rw [nxE_lo hE3 (by omega)])) dX1_nextChange_61
      · refine lv_aload_n hx hb dX1_nextChange_15 rfl (lv_at hl 2 rfl) ?_
        refine j_get (ci := 1) (v := .ref b) hx hb hts inX1_ hown hK hE1 rfl 0 (by decide) lk0 (fun _ h9 => h9) rfl dX1_nextChange_16 ?_
        refine lv_iload hx hb dX1_nextChange_19 (lv_at hl 0 rfl) ?_
        refine j_aald (C := RX0) hx hb hK hE2 rfl (by omega) (by omega) (by decide) dX1_nextChange_21 ?_
        rcases spE : L[(i).toNat]? with _ | e
        · refine j_qn (qL_n (by omega) spE) ?_
          refine lv_astoreN (lv' := [(5, .null), (4, .int (J i)), (3, .int (J (lo (ls_ L (gNx d)) nx i))), (0, .ref q), (1, .int (J d)), (2, .int (J nx))]) hx hb dX1_nextChange_22 hl (by decide) rfl (fun ls hl => ?_)
          refine lv_aloadN hx hb dX1_nextChange_24 (lv_at hl 0 rfl) ?_
          refine lv_ifnullN (tgt := 54) hx hb dX1_nextChange_26 (by decide) ?_
          refine lv_iinc (v := J (i + 1)) (lv' := [(4, .int (J (i + 1))), (5, .null), (3, .int (J (lo (ls_ L (gNx d)) nx i))), (0, .ref q), (1, .int (J d)), (2, .int (J nx))]) hx hb dX1_nextChange_54 hl (k := 1) rfl (J_add _ _) (by decide) rfl (fun ls hl => ?_)
          refine lv_goto (tgt := 5) hx hb dX1_nextChange_57 (by decide) ?_
          exact ih5 (i + 1) (by omega) (by omega) _ (lv_sub hl [0, 2, 3, 4, 5] (by rw [show ((i + 1) : Int) = i + 1 from (by omega)]; rw [show (lo (ls_ L (gNx d)) nx (i + 1) : Int) = lo (ls_ L (gNx d)) nx i from (by rw [lo_s _ _ (by omega)]; simp only [ls_, spE, gNx])]; try rfl))
        · refine j_qs (b := eAd e) (qL_s (by omega) spE) ?_
          have hme : e ∈ L := List.mem_of_getElem? spE
          have hce : At G s.heap (eAd e) (eO 0 [.int (J (eNo e)), .int (J (eDy e)), .int (J (eKi e)), .int (J (eVa e))]) := hE4 e hme
          obtain ⟨ok1, ok2, ok3⟩ := hE5 e hme
          refine lv_astore (lv' := [(5, .ref (eAd e)), (4, .int (J i)), (3, .int (J (lo (ls_ L (gNx d)) nx i))), (0, .ref q), (1, .int (J d)), (2, .int (J nx))]) hx hb dX1_nextChange_22 hl (by decide) rfl (fun ls hl => ?_)
          refine lv_aload hx hb dX1_nextChange_24 (lv_at hl 0 rfl) ?_
          refine lv_ifnull hx hb dX1_nextChange_26 ?_
          refine lv_aload hx hb dX1_nextChange_29 (lv_at hl 0 rfl) ?_
          refine j_get (ci := 0) (v := .int (J (eDy e))) hx hb hts inX0_ hown hK hce rfl 1 (by decide) lk1 (fun _ h9 => h9) rfl dX1_nextChange_31 ?_
          refine lv_iload_n hx hb dX1_nextChange_34 rfl (lv_at hl 4 rfl) ?_
          refine lv_iload_n hx hb dX1_nextChange_35 rfl (lv_at hl 2 rfl) ?_
          refine k_SN (As := [.int (J (eDy e)), .int (J d), .int (J (lo (ls_ L (gNx d)) nx i))]) (rest := []) (v := .int (J (snr (eDy e) d (lo (ls_ L (gNx d)) nx i)))) hx hb hml hown hts hK hl.1 (c_X8_sooner l G (eDy e) d (lo (ls_ L (gNx d)) nx i) ((by omega)) ((by omega)) ((by omega))) (va_cnB 3 hts gX1_nextChange_X8_sooner_n38 rfl rfl rfl hK.2.1.2.2.2.2.1 lk2 (by decide +kernel) ⟨Nat.le_of_ble_eq_true rfl, Nat.le_of_ble_eq_true rfl⟩) lk3 trivial rfl rfl (Nat.le_of_ble_eq_true rfl) dX1_nextChange_36 ⟨Nat.zero_le _, Nat.zero_le _⟩ ?_
          refine lv_istore_n (lv' := [(3, .int (J (snr (eDy e) d (lo (ls_ L (gNx d)) nx i)))), (5, .ref (eAd e)), (4, .int (J i)), (0, .ref q), (1, .int (J d)), (2, .int (J nx))]) hx hb dX1_nextChange_39 rfl hl (by decide) rfl (fun ls hl => ?_)
          have hsn := snr_rng (ch := eDy e) hrg.1
          refine lv_aload hx hb dX1_nextChange_40 (lv_at hl 1 rfl) ?_
          refine j_get (ci := 0) (v := .int (J (eDy e))) hx hb hts inX0_ hown hK hce rfl 1 (by decide) lk1 (fun _ h9 => h9) rfl dX1_nextChange_42 ?_
          refine j_bi hx hb dX1_nextChange_45 (by decide +kernel) ?_
          refine j_add hx hb dX1_nextChange_47 ?_
          refine lv_iload_n hx hb dX1_nextChange_48 rfl (lv_at hl 4 rfl) ?_
          refine lv_iload_n hx hb dX1_nextChange_49 rfl (lv_at hl 0 rfl) ?_
          refine k_SN (As := [.int (J ((eDy e) + 90)), .int (J d), .int (J (snr (eDy e) d (lo (ls_ L (gNx d)) nx i)))]) (rest := []) (v := .int (J (snr ((eDy e) + 90) d (snr (eDy e) d (lo (ls_ L (gNx d)) nx i))))) hx hb hml hown hts hK hl.1 (c_X8_sooner l G ((eDy e) + 90) d (snr (eDy e) d (lo (ls_ L (gNx d)) nx i)) ((by omega)) ((by omega)) ((by omega))) (va_cnB 3 hts gX1_nextChange_X8_sooner_n38 rfl rfl rfl hK.2.1.2.2.2.2.1 lk2 (by decide +kernel) ⟨Nat.le_of_ble_eq_true rfl, Nat.le_of_ble_eq_true rfl⟩) lk3 trivial rfl rfl (Nat.le_of_ble_eq_true rfl) dX1_nextChange_50 ⟨Nat.zero_le _, Nat.zero_le _⟩ ?_
          refine lv_istore_n (lv' := [(3, .int (J (snr ((eDy e) + 90) d (snr (eDy e) d (lo (ls_ L (gNx d)) nx i))))), (5, .ref (eAd e)), (4, .int (J i)), (0, .ref q), (1, .int (J d)), (2, .int (J nx))]) hx hb dX1_nextChange_53 rfl hl (by decide) rfl (fun ls hl => ?_)
          refine lv_iinc (v := J (i + 1)) (lv' := [(4, .int (J (i + 1))), (3, .int (J (snr ((eDy e) + 90) d (snr (eDy e) d (lo (ls_ L (gNx d)) nx i))))), (5, .ref (eAd e)), (0, .ref q), (1, .int (J d)), (2, .int (J nx))]) hx hb dX1_nextChange_54 hl (k := 2) rfl (J_add _ _) (by decide) rfl (fun ls hl => ?_)
          refine lv_goto (tgt := 5) hx hb dX1_nextChange_57 (by decide) ?_
          exact ih5 (i + 1) (by omega) (by omega) _ (lv_sub hl [0, 1, 3, 4, 5] (by rw [show ((i + 1) : Int) = i + 1 from (by omega)]; rw [show (lo (ls_ L (gNx d)) nx (i + 1) : Int) = snr ((eDy e) + 90) d (snr (eDy e) d (lo (ls_ L (gNx d)) nx i)) from (by rw [lo_s _ _ (by omega)]; simp only [ls_, spE, gNx])]; try rfl))
  exact lp5 13 0 (by omega) (by omega) _ (lv_sub hl [0, 1, 2, 3, 4] (by rw [show (lo (ls_ L (gNx d)) nx 0 : Int) = nx from (by rfl)]; try rfl))

abbrev rmX2_tells : Room := { frames := 0, cells := 0, slots := 0, locals := 0 }
set_option maxHeartbeats 4000000 in
set_option maxRecDepth 100000 in
theorem c_X2_tells (l : Launch) (G : GG) (ha ea : Int → Nat) (V : St) (i : Int) (ks st out : Int) (h_i : 0 ≤ i ∧ i < 40) (h_h : (0 ≤ V 1 i ∧ V 1 i ≤ 3) ∧ (0 ≤ V 2 i ∧ V 2 i ≤ 2) ∧ (0 ≤ V 3 i ∧ V 3 i ≤ 5) ∧ (1 ≤ V 4 i ∧ V 4 i ≤ 500) ∧ (0 ≤ V 5 i ∧ V 5 i ≤ 100000) ∧ (0 ≤ V 6 i ∧ V 6 i ≤ 12)) (g_ks : -2147483648 ≤ ks ∧ ks < 2147483648) (g_st : -2147483648 ≤ st ∧ st < 2147483648) (g_out : -2147483648 ≤ out ∧ out < 2147483648) : MP l G yX2_tells wsX2_tells rmX2_tells [.ref (ha i), .int (J ks), .int (J st), .int (J out)] (fun H => At G H (ha i) (eHo V ea i)) (.int (J (pI (asked V ks st out i))) : Value) := by
  refine MP.of (cc := cX2_tells) (maxL := 4) (ret := (some .boolean)) (by decide) rfl (Nat.le_of_ble_eq_true rfl) ?_
  intro p e s m below meth c hx hb hr hml hown hts hlk hK hP ls hl
  have hown : s.vm.findClass RX2 = some m.cls := hown
  have hl : lv_has ls 4 [(0, .ref (ha i)), (1, .int (J ks)), (2, .int (J st)), (3, .int (J out))] := hl
  have inX2_ : ∀ w ∈ u_ws RX2 TX2 7, w ∈ wsX2_tells := by decide +kernel
  have lk0 := hts (.fieldLink RX2 27 "RateBook$House" "rent" "I") (by decide +kernel)
  have lk1 := hts (.fieldLink RX2 9 "RateBook$House" "number" "I") (by decide +kernel)
  have lk2 := hts (.fieldLink RX2 18 "RateBook$House" "kind" "I") (by decide +kernel)
  have lk3 := hts (.fieldLink RX2 21 "RateBook$House" "street" "I") (by decide +kernel)
  refine lv_aload_n hx hb dX2_tells_0 rfl (lv_at hl 0 rfl) ?_
  refine j_get (ci := 2) (v := .int (J (V 5 i))) hx hb hts inX2_ hown hK hP rfl 6 (by decide) lk0 (fun _ h9 => h9) rfl dX2_tells_1 ?_
  refine j_le0 (tgt := 40) hx hb (by omega) (by omega) dX2_tells_4 (by decide) (fun c4 => ?_) (fun c4 => ?_)
  · refine j_const hx hb dX2_tells_40 ?_
    exact r_z hx hb hr hlk rfl (congrArg (fun z => Value.int (J z)) (show (0 : Int) = pI (asked V ks st out i) from (pI_f (by unfold asked; omega)).symm)) dX2_tells_41
  · refine lv_aload_n hx hb dX2_tells_7 rfl (lv_at hl 0 rfl) ?_
    refine j_get (ci := 2) (v := .int (J i)) hx hb hts inX2_ hown hK hP rfl 0 (by decide) lk1 (fun _ h9 => h9) rfl dX2_tells_8 ?_
    refine lv_iload_n hx hb dX2_tells_11 rfl (lv_at hl 3 rfl) ?_
    refine j_ceq (tgt := 40) hx hb (by omega) (by omega) (by omega) (by omega) dX2_tells_12 (by decide) (fun c12 => ?_) (fun c12 => ?_)
    · refine j_const hx hb dX2_tells_40 ?_
      exact r_z hx hb hr hlk rfl (congrArg (fun z => Value.int (J z)) (show (0 : Int) = pI (asked V ks st out i) from (pI_f (by unfold asked; omega)).symm)) dX2_tells_41
    · refine lv_aload_n hx hb dX2_tells_15 rfl (lv_at hl 0 rfl) ?_
      refine j_get (ci := 2) (v := .int (J (V 2 i))) hx hb hts inX2_ hown hK hP rfl 2 (by decide) lk2 (fun _ h9 => h9) rfl dX2_tells_16 ?_
      refine lv_iload_n hx hb dX2_tells_19 rfl (lv_at hl 1 rfl) ?_
      refine j_cne (tgt := 40) hx hb (by omega) (by omega) (by omega) (by omega) dX2_tells_20 (by decide) (fun c20 => ?_) (fun c20 => ?_)
      · refine j_const hx hb dX2_tells_40 ?_
        exact r_z hx hb hr hlk rfl (congrArg (fun z => Value.int (J z)) (show (0 : Int) = pI (asked V ks st out i) from (pI_f (by unfold asked; omega)).symm)) dX2_tells_41
      · refine lv_iload_n hx hb dX2_tells_23 rfl (lv_at hl 2 rfl) ?_
        refine j_const hx hb dX2_tells_24 ?_
        refine j_ceq (tgt := 36) hx hb (by omega) (by omega) (by decide) (by decide) dX2_tells_25 (by decide) (fun c25 => ?_) (fun c25 => ?_)
        · refine j_const hx hb dX2_tells_36 ?_
          refine lv_goto (tgt := 41) hx hb dX2_tells_37 (by decide) ?_
          exact r_z hx hb hr hlk rfl (congrArg (fun z => Value.int (J z)) (show (1 : Int) = pI (asked V ks st out i) from (pI_t (by unfold asked; omega)).symm)) dX2_tells_41
        · refine lv_aload_n hx hb dX2_tells_28 rfl (lv_at hl 0 rfl) ?_
          refine j_get (ci := 2) (v := .int (J (V 3 i))) hx hb hts inX2_ hown hK hP rfl 3 (by decide) lk3 (fun _ h9 => h9) rfl dX2_tells_29 ?_
          refine lv_iload_n hx hb dX2_tells_32 rfl (lv_at hl 2 rfl) ?_
          refine j_cne (tgt := 40) hx hb (by omega) (by omega) (by omega) (by omega) dX2_tells_33 (by decide) (fun c33 => ?_) (fun c33 => ?_)
          · refine j_const hx hb dX2_tells_40 ?_
            exact r_z hx hb hr hlk rfl (congrArg (fun z => Value.int (J z)) (show (0 : Int) = pI (asked V ks st out i) from (pI_f (by unfold asked; omega)).symm)) dX2_tells_41
          · refine j_const hx hb dX2_tells_36 ?_
            refine lv_goto (tgt := 41) hx hb dX2_tells_37 (by decide) ?_
            exact r_z hx hb hr hlk rfl (congrArg (fun z => Value.int (J z)) (show (1 : Int) = pI (asked V ks st out i) from (pI_t (by unfold asked; omega)).symm)) dX2_tells_41

abbrev rmX2_isLike : Room := { frames := 0, cells := 0, slots := 0, locals := 0 }
set_option maxHeartbeats 4000000 in
set_option maxRecDepth 100000 in
theorem c_X2_isLike (l : Launch) (G : GG) (ha ea : Int → Nat) (V : St) (i j : Int) (h_i : 0 ≤ i ∧ i < 40) (h_h : (0 ≤ V 1 i ∧ V 1 i ≤ 3) ∧ (0 ≤ V 2 i ∧ V 2 i ≤ 2) ∧ (0 ≤ V 3 i ∧ V 3 i ≤ 5) ∧ (1 ≤ V 4 i ∧ V 4 i ≤ 500) ∧ (0 ≤ V 5 i ∧ V 5 i ≤ 100000) ∧ (0 ≤ V 6 i ∧ V 6 i ≤ 12)) (h_j : 0 ≤ j ∧ j < 40) (h_g : (0 ≤ V 1 j ∧ V 1 j ≤ 3) ∧ (0 ≤ V 2 j ∧ V 2 j ≤ 2) ∧ (0 ≤ V 3 j ∧ V 3 j ≤ 5) ∧ (1 ≤ V 4 j ∧ V 4 j ≤ 500) ∧ (0 ≤ V 5 j ∧ V 5 j ≤ 100000) ∧ (0 ≤ V 6 j ∧ V 6 j ≤ 12)) : MP l G yX2_isLike wsX2_isLike rmX2_isLike [.ref (ha i), .ref (ha j)] (fun H => At G H (ha i) (eHo V ea i) ∧ At G H (ha j) (eHo V ea j)) (.int (J (pI (V 2 i = V 2 j ∧ V 3 i = V 3 j))) : Value) := by
  refine MP.of (cc := cX2_isLike) (maxL := 2) (ret := (some .boolean)) (by decide) rfl (Nat.le_of_ble_eq_true rfl) ?_
  intro p e s m below meth c hx hb hr hml hown hts hlk hK hP ls hl
  have hown : s.vm.findClass RX2 = some m.cls := hown
  have hl : lv_has ls 2 [(0, .ref (ha i)), (1, .ref (ha j))] := hl
  have inX2_ : ∀ w ∈ u_ws RX2 TX2 7, w ∈ wsX2_isLike := by decide +kernel
  have lk0 := hts (.fieldLink RX2 18 "RateBook$House" "kind" "I") (by decide +kernel)
  have lk1 := hts (.fieldLink RX2 21 "RateBook$House" "street" "I") (by decide +kernel)
  refine lv_aload_n hx hb dX2_isLike_0 rfl (lv_at hl 0 rfl) ?_
  refine j_get (ci := 2) (v := .int (J (V 2 i))) hx hb hts inX2_ hown hK hP.1 rfl 2 (by decide) lk0 (fun _ h9 => h9) rfl dX2_isLike_1 ?_
  refine lv_aload_n hx hb dX2_isLike_4 rfl (lv_at hl 1 rfl) ?_
  refine j_get (ci := 2) (v := .int (J (V 2 j))) hx hb hts inX2_ hown hK hP.2 rfl 2 (by decide) lk0 (fun _ h9 => h9) rfl dX2_isLike_5 ?_
  refine j_cne (tgt := 26) hx hb (by omega) (by omega) (by omega) (by omega) dX2_isLike_8 (by decide) (fun c8 => ?_) (fun c8 => ?_)
  · refine j_const hx hb dX2_isLike_26 ?_
    exact r_z hx hb hr hlk rfl (congrArg (fun z => Value.int (J z)) (show (0 : Int) = pI (V 2 i = V 2 j ∧ V 3 i = V 3 j) from (pI_f (by omega)).symm)) dX2_isLike_27
  · refine lv_aload_n hx hb dX2_isLike_11 rfl (lv_at hl 0 rfl) ?_
    refine j_get (ci := 2) (v := .int (J (V 3 i))) hx hb hts inX2_ hown hK hP.1 rfl 3 (by decide) lk1 (fun _ h9 => h9) rfl dX2_isLike_12 ?_
    refine lv_aload_n hx hb dX2_isLike_15 rfl (lv_at hl 1 rfl) ?_
    refine j_get (ci := 2) (v := .int (J (V 3 j))) hx hb hts inX2_ hown hK hP.2 rfl 3 (by decide) lk1 (fun _ h9 => h9) rfl dX2_isLike_16 ?_
    refine j_cne (tgt := 26) hx hb (by omega) (by omega) (by omega) (by omega) dX2_isLike_19 (by decide) (fun c19 => ?_) (fun c19 => ?_)
    · refine j_const hx hb dX2_isLike_26 ?_
      exact r_z hx hb hr hlk rfl (congrArg (fun z => Value.int (J z)) (show (0 : Int) = pI (V 2 i = V 2 j ∧ V 3 i = V 3 j) from (pI_f (by omega)).symm)) dX2_isLike_27
    · refine j_const hx hb dX2_isLike_22 ?_
      refine lv_goto (tgt := 27) hx hb dX2_isLike_23 (by decide) ?_
      exact r_z hx hb hr hlk rfl (congrArg (fun z => Value.int (J z)) (show (1 : Int) = pI (V 2 i = V 2 j ∧ V 3 i = V 3 j) from (pI_t (by omega)).symm)) dX2_isLike_27

abbrev rmX2_hasLesserRent : Room := { frames := 0, cells := 0, slots := 0, locals := 0 }
set_option maxHeartbeats 4000000 in
set_option maxRecDepth 100000 in
theorem c_X2_hasLesserRent (l : Launch) (G : GG) (ha ea : Int → Nat) (V : St) (i j : Int) (h_i : 0 ≤ i ∧ i < 40) (h_h : (0 ≤ V 1 i ∧ V 1 i ≤ 3) ∧ (0 ≤ V 2 i ∧ V 2 i ≤ 2) ∧ (0 ≤ V 3 i ∧ V 3 i ≤ 5) ∧ (1 ≤ V 4 i ∧ V 4 i ≤ 500) ∧ (0 ≤ V 5 i ∧ V 5 i ≤ 100000) ∧ (0 ≤ V 6 i ∧ V 6 i ≤ 12)) (h_j : 0 ≤ j ∧ j < 40) (h_g : (0 ≤ V 1 j ∧ V 1 j ≤ 3) ∧ (0 ≤ V 2 j ∧ V 2 j ≤ 2) ∧ (0 ≤ V 3 j ∧ V 3 j ≤ 5) ∧ (1 ≤ V 4 j ∧ V 4 j ≤ 500) ∧ (0 ≤ V 5 j ∧ V 5 j ≤ 100000) ∧ (0 ≤ V 6 j ∧ V 6 j ≤ 12)) : MP l G yX2_hasLesserRent wsX2_hasLesserRent rmX2_hasLesserRent [.ref (ha i), .ref (ha j)] (fun H => At G H (ha i) (eHo V ea i) ∧ At G H (ha j) (eHo V ea j)) (.int (J (pI (less V i j))) : Value) := by
  refine MP.of (cc := cX2_hasLesserRent) (maxL := 6) (ret := (some .boolean)) (by decide) rfl (Nat.le_of_ble_eq_true rfl) ?_
  intro p e s m below meth c hx hb hr hml hown hts hlk hK hP ls hl
  have hown : s.vm.findClass RX2 = some m.cls := hown
  have hl : lv_has ls 6 [(0, .ref (ha i)), (1, .ref (ha j))] := hl
  have inX2_ : ∀ w ∈ u_ws RX2 TX2 7, w ∈ wsX2_hasLesserRent := by decide +kernel
  have lk0 := hts (.fieldLink RX2 27 "RateBook$House" "rent" "I") (by decide +kernel)
  have lk1 := hts (.fieldLink RX2 24 "RateBook$House" "size" "I") (by decide +kernel)
  have lk2 := hts (.fieldLink RX2 9 "RateBook$House" "number" "I") (by decide +kernel)
  have m1 := mulb (a := V 5 i) (b := V 4 j) (A := 100000) (B := 500) (by omega) (by omega) (by omega) (by omega)
  have m2 := mulb (a := V 5 j) (b := V 4 i) (A := 100000) (B := 500) (by omega) (by omega) (by omega) (by omega)
  refine lv_aload_n hx hb dX2_hasLesserRent_0 rfl (lv_at hl 0 rfl) ?_
  refine j_get (ci := 2) (v := .int (J (V 5 i))) hx hb hts inX2_ hown hK hP.1 rfl 6 (by decide) lk0 (fun _ h9 => h9) rfl dX2_hasLesserRent_1 ?_
  refine j_i2l hx hb (by omega) (by omega) dX2_hasLesserRent_4 ?_
  refine lv_aload_n hx hb dX2_hasLesserRent_5 rfl (lv_at hl 1 rfl) ?_
  refine j_get (ci := 2) (v := .int (J (V 4 j))) hx hb hts inX2_ hown hK hP.2 rfl 4 (by decide) lk1 (fun _ h9 => h9) rfl dX2_hasLesserRent_6 ?_
  refine j_i2l hx hb (by omega) (by omega) dX2_hasLesserRent_9 ?_
  refine j_lmul hx hb dX2_hasLesserRent_10 ?_
  refine lv_lstore_n (lv' := [(2, .long (JL ((V 5 i) * (V 4 j)))), (0, .ref (ha i)), (1, .ref (ha j))]) hx hb dX2_hasLesserRent_11 rfl hl (by decide) rfl (fun ls hl => ?_)
  refine lv_aload_n hx hb dX2_hasLesserRent_12 rfl (lv_at hl 2 rfl) ?_
  refine j_get (ci := 2) (v := .int (J (V 5 j))) hx hb hts inX2_ hown hK hP.2 rfl 6 (by decide) lk0 (fun _ h9 => h9) rfl dX2_hasLesserRent_13 ?_
  refine j_i2l hx hb (by omega) (by omega) dX2_hasLesserRent_16 ?_
  refine lv_aload_n hx hb dX2_hasLesserRent_17 rfl (lv_at hl 1 rfl) ?_
  refine j_get (ci := 2) (v := .int (J (V 4 i))) hx hb hts inX2_ hown hK hP.1 rfl 4 (by decide) lk1 (fun _ h9 => h9) rfl dX2_hasLesserRent_18 ?_
  refine j_i2l hx hb (by omega) (by omega) dX2_hasLesserRent_21 ?_
  refine j_lmul hx hb dX2_hasLesserRent_22 ?_
  refine lv_lstore (lv' := [(4, .long (JL ((V 5 j) * (V 4 i)))), (2, .long (JL ((V 5 i) * (V 4 j)))), (0, .ref (ha i)), (1, .ref (ha j))]) hx hb dX2_hasLesserRent_23 hl (by decide) rfl (fun ls hl => ?_)
  refine lv_lload_n hx hb dX2_hasLesserRent_25 rfl (lv_at hl 1 rfl) ?_
  refine lv_lload hx hb dX2_hasLesserRent_26 (lv_at hl 0 rfl) ?_
  refine j_lcmp hx hb (by omega) (by omega) (by omega) (by omega) dX2_hasLesserRent_28 ?_
  refine j_lt0 (tgt := 50) hx hb (by have := cmp3_rng ((V 5 i) * (V 4 j)) ((V 5 j) * (V 4 i)); omega) (by have := cmp3_rng ((V 5 i) * (V 4 j)) ((V 5 j) * (V 4 i)); omega) dX2_hasLesserRent_29 (by decide) (fun c29 => ?_) (fun c29 => ?_)
  · refine j_const hx hb dX2_hasLesserRent_50 ?_
    refine lv_goto (tgt := 55) hx hb dX2_hasLesserRent_51 (by decide) ?_
    exact r_z hx hb hr hlk rfl (congrArg (fun z => Value.int (J z)) (show (1 : Int) = pI (less V i j) from (pI_t (by unfold less; simp only [cmp3_lt, cmp3_eq, ne_eq, Int.not_lt, Int.not_le, ge_iff_le, ← Int.not_lt (a := cmp3 _ _)] at *; omega)).symm)) dX2_hasLesserRent_55
  · refine lv_lload_n hx hb dX2_hasLesserRent_32 rfl (lv_at hl 1 rfl) ?_
    refine lv_lload hx hb dX2_hasLesserRent_33 (lv_at hl 0 rfl) ?_
    refine j_lcmp hx hb (by omega) (by omega) (by omega) (by omega) dX2_hasLesserRent_35 ?_
    refine j_ne0 (tgt := 54) hx hb (by have := cmp3_rng ((V 5 i) * (V 4 j)) ((V 5 j) * (V 4 i)); omega) (by have := cmp3_rng ((V 5 i) * (V 4 j)) ((V 5 j) * (V 4 i)); omega) dX2_hasLesserRent_36 (by decide) (fun c36 => ?_) (fun c36 => ?_)
    · refine j_const hx hb dX2_hasLesserRent_54 ?_
      exact r_z hx hb hr hlk rfl (congrArg (fun z => Value.int (J z)) (show (0 : Int) = pI (less V i j) from (pI_f (by unfold less; simp only [cmp3_lt, cmp3_eq, ne_eq, Int.not_lt, Int.not_le, ge_iff_le, ← Int.not_lt (a := cmp3 _ _)] at *; omega)).symm)) dX2_hasLesserRent_55
    · refine lv_aload_n hx hb dX2_hasLesserRent_39 rfl (lv_at hl 2 rfl) ?_
      refine j_get (ci := 2) (v := .int (J i)) hx hb hts inX2_ hown hK hP.1 rfl 0 (by decide) lk2 (fun _ h9 => h9) rfl dX2_hasLesserRent_40 ?_
      refine lv_aload_n hx hb dX2_hasLesserRent_43 rfl (lv_at hl 3 rfl) ?_
      refine j_get (ci := 2) (v := .int (J j)) hx hb hts inX2_ hown hK hP.2 rfl 0 (by decide) lk2 (fun _ h9 => h9) rfl dX2_hasLesserRent_44 ?_
      refine j_cge (tgt := 54) hx hb (by omega) (by omega) (by omega) (by omega) dX2_hasLesserRent_47 (by decide) (fun c47 => ?_) (fun c47 => ?_)
      · refine j_const hx hb dX2_hasLesserRent_54 ?_
        exact r_z hx hb hr hlk rfl (congrArg (fun z => Value.int (J z)) (show (0 : Int) = pI (less V i j) from (pI_f (by unfold less; simp only [cmp3_lt, cmp3_eq, ne_eq, Int.not_lt, Int.not_le, ge_iff_le, ← Int.not_lt (a := cmp3 _ _)] at *; omega)).symm)) dX2_hasLesserRent_55
      · refine j_const hx hb dX2_hasLesserRent_50 ?_
        refine lv_goto (tgt := 55) hx hb dX2_hasLesserRent_51 (by decide) ?_
        exact r_z hx hb hr hlk rfl (congrArg (fun z => Value.int (J z)) (show (1 : Int) = pI (less V i j) from (pI_t (by unfold less; simp only [cmp3_lt, cmp3_eq, ne_eq, Int.not_lt, Int.not_le, ge_iff_le, ← Int.not_lt (a := cmp3 _ _)] at *; omega)).symm)) dX2_hasLesserRent_55

abbrev rmX2_sizeOn : Room := { frames := 1, cells := 0, slots := 0, locals := 25 }
set_option maxHeartbeats 4000000 in
set_option maxRecDepth 100000 in
theorem c_X2_sizeOn (l : Launch) (G : GG) (ha ea eb : Int → Nat) (V : St) (L : List EvT) (i d : Int) (h_i : 0 ≤ i ∧ i < 40) (h_h : (0 ≤ V 1 i ∧ V 1 i ≤ 3) ∧ (0 ≤ V 2 i ∧ V 2 i ≤ 2) ∧ (0 ≤ V 3 i ∧ V 3 i ≤ 5) ∧ (1 ≤ V 4 i ∧ V 4 i ≤ 500) ∧ (0 ≤ V 5 i ∧ V 5 i ≤ 100000) ∧ (0 ≤ V 6 i ∧ V 6 i ≤ 12)) (g_d : -2147483648 ≤ d ∧ d < 2147483648) : MP l G yX2_sizeOn wsX2_sizeOn rmX2_sizeOn [.ref (ha i), .int (J d)] (fun H => At G H (ha i) (eHo V ea i) ∧ Evs G H (ea i) (eb i) L) (.int (J (szO L (V 4 i) d)) : Value) := by
  refine MP.of (cc := cX2_sizeOn) (maxL := 3) (ret := (some .int)) (by decide) rfl (Nat.le_of_ble_eq_true rfl) ?_
  intro p e s m below meth c hx hb hr hml hown hts hlk hK hP ls hl
  have hown : s.vm.findClass RX2 = some m.cls := hown
  have hl : lv_has ls 3 [(0, .ref (ha i)), (1, .int (J d))] := hl
  have inX0_ : ∀ w ∈ u_ws RX0 TX0 4, w ∈ wsX2_sizeOn := by decide +kernel
  have inX2_ : ∀ w ∈ u_ws RX2 TX2 7, w ∈ wsX2_sizeOn := by decide +kernel
  have lk0 := hts (.fieldLink RX2 33 "RateBook$House" "events" "LRateBook$Events;") (by decide +kernel)
  have lk1 := hts (.fieldLink RX2 24 "RateBook$House" "size" "I") (by decide +kernel)
  have lk2 := hts (.fieldLink RX2 41 "RateBook$Event" "value" "I") (by decide +kernel)
  obtain ⟨hHo, hEv⟩ := hP
  obtain ⟨hE1, hE2, hE3, hE4, hE5⟩ := id hEv
  refine lv_aload_n hx hb dX2_sizeOn_0 rfl (lv_at hl 0 rfl) ?_
  refine j_get (ci := 2) (v := .ref (ea i)) hx hb hts inX2_ hown hK hHo rfl 5 (by decide) lk0 (fun _ h9 => h9) rfl dX2_sizeOn_1 ?_
  refine j_const hx hb dX2_sizeOn_4 ?_
  refine lv_iload_n hx hb dX2_sizeOn_5 rfl (lv_at hl 1 rfl) ?_
  refine k_V (ci := 1) (b := ea i) (As := [.int (J 0), .int (J d)]) (rest := []) (v := va_rf (Option.map eAd (lat L 0 d))) hx hb hml hown hts hK hl.1 (c_X1_latestOf l G (ea i) (eb i) L 0 d ((by omega)) ((by omega))) (cwV 2 hts gX2_sizeOn_X1_latestOf rfl rfl rfl (by decide +kernel) ⟨Nat.le_of_ble_eq_true rfl, Nat.le_of_ble_eq_true rfl⟩) hE1 rfl hEv rfl rfl (Nat.le_of_ble_eq_true rfl) dX2_sizeOn_6 ⟨Nat.zero_le _, Nat.zero_le _⟩ ?_
  rcases spL : lat L 0 d with _ | e
  · refine j_qn rfl ?_
    refine lv_astore_nN (lv' := [(2, .null), (0, .ref (ha i)), (1, .int (J d))]) hx hb dX2_sizeOn_9 rfl hl (by decide) rfl (fun ls hl => ?_)
    refine lv_aload_nN hx hb dX2_sizeOn_10 rfl (lv_at hl 0 rfl) ?_
    refine lv_ifnonnullN hx hb dX2_sizeOn_11 ?_
    refine lv_aload_n hx hb dX2_sizeOn_14 rfl (lv_at hl 1 rfl) ?_
    refine j_get (ci := 2) (v := .int (J (V 4 i))) hx hb hts inX2_ hown hK hHo rfl 4 (by decide) lk1 (fun _ h9 => h9) rfl dX2_sizeOn_15 ?_
    refine lv_goto (tgt := 25) hx hb dX2_sizeOn_18 (by decide) ?_
    exact r_i hx hb hr hlk (congrArg (fun z => Value.int (J z)) (show (V 4 i : Int) = szO L (V 4 i) d from by unfold szO; rw [spL])) dX2_sizeOn_25
  · refine j_qs (b := eAd e) rfl ?_
    have hme : e ∈ L := lat_mem spL
    have hce : At G s.heap (eAd e) (eO 0 [.int (J (eNo e)), .int (J (eDy e)), .int (J (eKi e)), .int (J (eVa e))]) := hE4 e hme
    obtain ⟨ok1, ok2, ok3⟩ := hE5 e hme
    have hsp := lat_spec spL
    refine lv_astore_n (lv' := [(2, .ref (eAd e)), (0, .ref (ha i)), (1, .int (J d))]) hx hb dX2_sizeOn_9 rfl hl (by decide) rfl (fun ls hl => ?_)
    refine lv_aload_n hx hb dX2_sizeOn_10 rfl (lv_at hl 0 rfl) ?_
    refine lv_ifnonnull (tgt := 21) hx hb dX2_sizeOn_11 (by decide) ?_
    refine lv_aload_n hx hb dX2_sizeOn_21 rfl (lv_at hl 0 rfl) ?_
    refine j_get (ci := 0) (v := .int (J (eVa e))) hx hb hts inX0_ hown hK hce rfl 3 (by decide) lk2 (fun _ h9 => h9) rfl dX2_sizeOn_22 ?_
    exact r_i hx hb hr hlk (congrArg (fun z => Value.int (J z)) (show (eVa e : Int) = szO L (V 4 i) d from by unfold szO; rw [spL])) dX2_sizeOn_25

abbrev rmX2_useOn : Room := { frames := 1, cells := 0, slots := 0, locals := 25 }
set_option maxHeartbeats 4000000 in
set_option maxRecDepth 100000 in
theorem c_X2_useOn (l : Launch) (G : GG) (ha ea eb : Int → Nat) (V : St) (L : List EvT) (i d : Int) (h_i : 0 ≤ i ∧ i < 40) (h_h : (0 ≤ V 1 i ∧ V 1 i ≤ 3) ∧ (0 ≤ V 2 i ∧ V 2 i ≤ 2) ∧ (0 ≤ V 3 i ∧ V 3 i ≤ 5) ∧ (1 ≤ V 4 i ∧ V 4 i ≤ 500) ∧ (0 ≤ V 5 i ∧ V 5 i ≤ 100000) ∧ (0 ≤ V 6 i ∧ V 6 i ≤ 12)) (g_d : -2147483648 ≤ d ∧ d < 2147483648) : MP l G yX2_useOn wsX2_useOn rmX2_useOn [.ref (ha i), .int (J d)] (fun H => At G H (ha i) (eHo V ea i) ∧ Evs G H (ea i) (eb i) L) (.int (J (usO L d)) : Value) := by
  refine MP.of (cc := cX2_useOn) (maxL := 3) (ret := (some .int)) (by decide) rfl (Nat.le_of_ble_eq_true rfl) ?_
  intro p e s m below meth c hx hb hr hml hown hts hlk hK hP ls hl
  have hown : s.vm.findClass RX2 = some m.cls := hown
  have hl : lv_has ls 3 [(0, .ref (ha i)), (1, .int (J d))] := hl
  have inX0_ : ∀ w ∈ u_ws RX0 TX0 4, w ∈ wsX2_useOn := by decide +kernel
  have inX2_ : ∀ w ∈ u_ws RX2 TX2 7, w ∈ wsX2_useOn := by decide +kernel
  have lk0 := hts (.fieldLink RX2 33 "RateBook$House" "events" "LRateBook$Events;") (by decide +kernel)
  have lk1 := hts (.fieldLink RX2 41 "RateBook$Event" "value" "I") (by decide +kernel)
  obtain ⟨hHo, hEv⟩ := hP
  obtain ⟨hE1, hE2, hE3, hE4, hE5⟩ := id hEv
  refine lv_aload_n hx hb dX2_useOn_0 rfl (lv_at hl 0 rfl) ?_
  refine j_get (ci := 2) (v := .ref (ea i)) hx hb hts inX2_ hown hK hHo rfl 5 (by decide) lk0 (fun _ h9 => h9) rfl dX2_useOn_1 ?_
  refine j_const hx hb dX2_useOn_4 ?_
  refine lv_iload_n hx hb dX2_useOn_5 rfl (lv_at hl 1 rfl) ?_
  refine k_V (ci := 1) (b := ea i) (As := [.int (J 1), .int (J d)]) (rest := []) (v := va_rf (Option.map eAd (lat L 1 d))) hx hb hml hown hts hK hl.1 (c_X1_latestOf l G (ea i) (eb i) L 1 d ((by omega)) ((by omega))) (cwV 2 hts gX2_useOn_X1_latestOf rfl rfl rfl (by decide +kernel) ⟨Nat.le_of_ble_eq_true rfl, Nat.le_of_ble_eq_true rfl⟩) hE1 rfl hEv rfl rfl (Nat.le_of_ble_eq_true rfl) dX2_useOn_6 ⟨Nat.zero_le _, Nat.zero_le _⟩ ?_
  rcases spL : lat L 1 d with _ | e
  · refine j_qn rfl ?_
    refine lv_astore_nN (lv' := [(2, .null), (0, .ref (ha i)), (1, .int (J d))]) hx hb dX2_useOn_9 rfl hl (by decide) rfl (fun ls hl => ?_)
    refine lv_aload_nN hx hb dX2_useOn_10 rfl (lv_at hl 0 rfl) ?_
    refine lv_ifnonnullN hx hb dX2_useOn_11 ?_
    refine j_const hx hb dX2_useOn_14 ?_
    refine lv_goto (tgt := 22) hx hb dX2_useOn_15 (by decide) ?_
    exact r_i hx hb hr hlk (congrArg (fun z => Value.int (J z)) (show (0 : Int) = usO L d from by unfold usO; rw [spL])) dX2_useOn_22
  · refine j_qs (b := eAd e) rfl ?_
    have hme : e ∈ L := lat_mem spL
    have hce : At G s.heap (eAd e) (eO 0 [.int (J (eNo e)), .int (J (eDy e)), .int (J (eKi e)), .int (J (eVa e))]) := hE4 e hme
    obtain ⟨ok1, ok2, ok3⟩ := hE5 e hme
    have hsp := lat_spec spL
    refine lv_astore_n (lv' := [(2, .ref (eAd e)), (0, .ref (ha i)), (1, .int (J d))]) hx hb dX2_useOn_9 rfl hl (by decide) rfl (fun ls hl => ?_)
    refine lv_aload_n hx hb dX2_useOn_10 rfl (lv_at hl 0 rfl) ?_
    refine lv_ifnonnull (tgt := 18) hx hb dX2_useOn_11 (by decide) ?_
    refine lv_aload_n hx hb dX2_useOn_18 rfl (lv_at hl 0 rfl) ?_
    refine j_get (ci := 0) (v := .int (J (eVa e))) hx hb hts inX0_ hown hK hce rfl 3 (by decide) lk1 (fun _ h9 => h9) rfl dX2_useOn_19 ?_
    exact r_i hx hb hr hlk (congrArg (fun z => Value.int (J z)) (show (eVa e : Int) = usO L d from by unfold usO; rw [spL])) dX2_useOn_22
end
section
abbrev rmX5_at : Room := { frames := 0, cells := 0, slots := 0, locals := 0 }
set_option maxHeartbeats 4000000 in
set_option maxRecDepth 100000 in
theorem c_X5_at (l : Launch) (G : GG) (tw hs : Nat) (ha ea : Int → Nat) (V : St) (z : Int) (g_z : -2147483648 ≤ z ∧ z < 2147483648) : MP l G yX5_at wsX5_at rmX5_at [.ref tw, .int (J z)] (fun H => Tn G H tw hs ha ea V) (va_rf (qN (V 0 0) ha z) : Value) := by
  refine MP.of (cc := cX5_at) (maxL := 2) (ret := (some (.object "RateBook$House"))) (by decide) rfl (Nat.le_of_ble_eq_true rfl) ?_
  intro p e s m below meth c hx hb hr hml hown hts hlk hK hP ls hl
  have hown : s.vm.findClass RX5 = some m.cls := hown
  have hl : lv_has ls 2 [(0, .ref tw), (1, .int (J z))] := hl
  have inX5_ : ∀ w ∈ u_ws RX5 TX5 2, w ∈ wsX5_at := by decide +kernel
  have lk0 := hts (.fieldLink RX5 11 "RateBook$Town" "houses" "[LRateBook$House;") (by decide +kernel)
  have hT : Tn G s.heap tw hs ha ea V := hP
  obtain ⟨hT1, hT2, hT3, hT4⟩ := id hT
  have hn := hT1.n
  refine lv_iload_n hx hb dX5_at_0 rfl (lv_at hl 1 rfl) ?_
  refine j_lt0 (tgt := 22) hx hb (by omega) (by omega) dX5_at_1 (by decide) (fun c1 => ?_) (fun c1 => ?_)
  · refine lv_null hx hb dX5_at_22 ?_
    exact r_a hx hb hr hlk (o := none) rfl (congrArg va_rf (show (none : Option Nat) = qN (V 0 0) ha z from (qN_n (by omega)).symm)) dX5_at_23
  · refine lv_iload_n hx hb dX5_at_4 rfl (lv_at hl 1 rfl) ?_
    refine lv_aload_n hx hb dX5_at_5 rfl (lv_at hl 0 rfl) ?_
    refine j_get (ci := 5) (v := .ref hs) hx hb hts inX5_ hown hK hT2 rfl 0 (by decide) lk0 (fun _ h9 => h9) rfl dX5_at_6 ?_
    refine j_alQ (C := RX2) hx hb hK hT3 rfl dX5_at_9 ?_
    refine j_re (y := 40) rfl ?_
    refine j_cge (tgt := 22) hx hb (by omega) (by omega) (by decide) (by decide) dX5_at_10 (by decide) (fun c10 => ?_) (fun c10 => ?_)
    · refine lv_null hx hb dX5_at_22 ?_
      exact r_a hx hb hr hlk (o := none) rfl (congrArg va_rf (show (none : Option Nat) = qN (V 0 0) ha z from (qN_n (by omega)).symm)) dX5_at_23
    · refine lv_aload_n hx hb dX5_at_13 rfl (lv_at hl 0 rfl) ?_
      refine j_get (ci := 5) (v := .ref hs) hx hb hts inX5_ hown hK hT2 rfl 0 (by decide) lk0 (fun _ h9 => h9) rfl dX5_at_14 ?_
      refine lv_iload_n hx hb dX5_at_17 rfl (lv_at hl 1 rfl) ?_
      refine j_aald (C := RX2) hx hb hK hT3 rfl (by omega) (by omega) (by decide) dX5_at_18 ?_
      refine lv_goto (tgt := 23) hx hb dX5_at_19 (by decide) ?_
      exact r_a hx hb hr hlk (o := (qN (V 0 0) ha) z) rfl (congrArg va_rf (show ((qN (V 0 0) ha) z : Option Nat) = qN (V 0 0) ha z from rfl)) dX5_at_23

abbrev rmX5_rentsOf : Room := { frames := 1, cells := 0, slots := 0, locals := 23 }
set_option maxHeartbeats 4000000 in
set_option maxRecDepth 100000 in
theorem c_X5_rentsOf (l : Launch) (G : GG) (tw hs : Nat) (ha ea : Int → Nat) (V : St) (ks st out : Int) (g_ks : -2147483648 ≤ ks ∧ ks < 2147483648) (g_st : -2147483648 ≤ st ∧ st < 2147483648) (g_out : -2147483648 ≤ out ∧ out < 2147483648) : MP l G yX5_rentsOf wsX5_rentsOf rmX5_rentsOf [.ref tw, .int (J ks), .int (J st), .int (J out)] (fun H => Tn G H tw hs ha ea V) (.int (J (among V ks st out)) : Value) := by
  refine MP.of (cc := cX5_rentsOf) (maxL := 7) (ret := (some .int)) (by decide) rfl (Nat.le_of_ble_eq_true rfl) ?_
  intro p e s m below meth c hx hb hr hml hown hts hlk hK hP ls hl
  have hown : s.vm.findClass RX5 = some m.cls := hown
  have hl : lv_has ls 7 [(0, .ref tw), (1, .int (J ks)), (2, .int (J st)), (3, .int (J out))] := hl
  have inX5_ : ∀ w ∈ u_ws RX5 TX5 2, w ∈ wsX5_rentsOf := by decide +kernel
  have lk0 := hts (.fieldLink RX5 11 "RateBook$Town" "houses" "[LRateBook$House;") (by decide +kernel)
  have hT : Tn G s.heap tw hs ha ea V := hP
  obtain ⟨hT1, hT2, hT3, hT4⟩ := id hT
  have hn := hT1.n
  refine j_const hx hb dX5_rentsOf_0 ?_
  refine lv_istore (lv' := [(4, .int (J 0)), (0, .ref tw), (1, .int (J ks)), (2, .int (J st)), (3, .int (J out))]) hx hb dX5_rentsOf_1 hl (by decide) rfl (fun ls hl => ?_)
  refine j_const hx hb dX5_rentsOf_3 ?_
  refine lv_istore (lv' := [(5, .int (J 0)), (4, .int (J 0)), (0, .ref tw), (1, .int (J ks)), (2, .int (J st)), (3, .int (J out))]) hx hb dX5_rentsOf_4 hl (by decide) rfl (fun ls hl => ?_)
  have lp6 : ∀ (n : Nat) (i : Int) (i0 : 0 ≤ i ∧ i ≤ 40) (hm : 40 - i < (n : Int)) (ls : Array Slot) (hl : lv_has ls 7 [(5, .int (J i)), (4, .int (J (lo (gd (V 0 0) (fun x h => x + pI (asked V ks st out h))) 0 i))), (0, .ref tw), (1, .int (J ks)), (2, .int (J st)), (3, .int (J out))]), W p l e (headSpec wsX5_rentsOf rmX5_rentsOf).room s m ([.ref tw, .int (J ks), .int (J st), .int (J out)] : List Value).toArray below meth c s.heap [] 0 0 (MQ below (k2_QcV (.int (J (among V ks st out)) : Value)) ([.ref tw, .int (J ks), .int (J st), .int (J out)] : List Value).toArray s 0 0 (fun _ => False)) (F0 m 6 ls []) := by
    intro n
    induction n with
    | zero =>
      intro i i0 hm ls hl
      exact absurd hm (by omega)
    | succ n ih6 =>
      intro i i0 hm ls hl
      refine lv_iload hx hb dX5_rentsOf_6 (lv_at hl 0 rfl) ?_
      refine lv_aload_n hx hb dX5_rentsOf_8 rfl (lv_at hl 2 rfl) ?_
      refine j_get (ci := 5) (v := .ref hs) hx hb hts inX5_ hown hK hT2 rfl 0 (by decide) lk0 (fun _ h9 => h9) rfl dX5_rentsOf_9 ?_
      refine j_alQ (C := RX2) hx hb hK hT3 rfl dX5_rentsOf_12 ?_
      refine j_re (y := 40) rfl ?_
      refine j_cge (tgt := 57) hx hb (by omega) (by omega) (by decide) (by decide) dX5_rentsOf_13 (by decide) (fun c13 => ?_) (fun c13 => ?_)
      · refine lv_iload hx hb dX5_rentsOf_57 (lv_at hl 1 rfl) ?_
        exact r_i hx hb hr hlk (congrArg (fun z => Value.int (J z)) (show (lo (gd (V 0 0) (fun x h => x + pI (asked V ks st out h))) 0 i : Int) = among V ks st out from by rw [show i = 40 by omega]; exact lo_gd hn.1 hn.2)) dX5_rentsOf_59
      · refine lv_aload_n hx hb dX5_rentsOf_16 rfl (lv_at hl 2 rfl) ?_
        refine j_get (ci := 5) (v := .ref hs) hx hb hts inX5_ hown hK hT2 rfl 0 (by decide) lk0 (fun _ h9 => h9) rfl dX5_rentsOf_17 ?_
        refine lv_iload hx hb dX5_rentsOf_20 (lv_at hl 0 rfl) ?_
        refine j_aald (C := RX2) hx hb hK hT3 rfl (by omega) (by omega) (by decide) dX5_rentsOf_22 ?_
        by_cases sp22 : 0 ≤ i ∧ i < V 0 0
        · refine j_qs (b := ha i) (qN_s sp22) ?_
          have hce_1 : At G s.heap (ha i) (eHo V (ea) i) := hT4 i sp22.1 sp22.2
          have hih_2 := hT1.h sp22.1 sp22.2
          refine lv_astore (lv' := [(6, .ref (ha i)), (5, .int (J i)), (4, .int (J (lo (gd (V 0 0) (fun x h => x + pI (asked V ks st out h))) 0 i))), (0, .ref tw), (1, .int (J ks)), (2, .int (J st)), (3, .int (J out))]) hx hb dX5_rentsOf_23 hl (by decide) rfl (fun ls hl => ?_)
          refine lv_iload hx hb dX5_rentsOf_25 (lv_at hl 2 rfl) ?_
          refine lv_aload hx hb dX5_rentsOf_27 (lv_at hl 0 rfl) ?_
          refine lv_ifnull hx hb dX5_rentsOf_29 ?_
          refine lv_aload hx hb dX5_rentsOf_32 (lv_at hl 0 rfl) ?_
          refine lv_iload_n hx hb dX5_rentsOf_34 rfl (lv_at hl 4 rfl) ?_
          refine lv_iload_n hx hb dX5_rentsOf_35 rfl (lv_at hl 5 rfl) ?_
          refine lv_iload_n hx hb dX5_rentsOf_36 rfl (lv_at hl 6 rfl) ?_
          refine k_V (ci := 2) (b := ha i) (As := [.int (J ks), .int (J st), .int (J out)]) (rest := [.int (J (lo (gd (V 0 0) (fun x h => x + pI (asked V ks st out h))) 0 i))]) (v := .int (J (pI (asked V ks st out i)))) hx hb hml hown hts hK hl.1 (c_X2_tells l G ha ea V i ks st out ((by omega)) hih_2 g_ks g_st g_out) (cwV 3 hts gX5_rentsOf_X2_tells rfl rfl rfl (by decide +kernel) ⟨Nat.le_of_ble_eq_true rfl, Nat.le_of_ble_eq_true rfl⟩) hce_1 rfl hce_1 rfl rfl (Nat.le_of_ble_eq_true rfl) dX5_rentsOf_37 ⟨Nat.zero_le _, Nat.zero_le _⟩ ?_
          refine j_eqP (tgt := 47) hx hb dX5_rentsOf_40 (by decide) (fun c40 => ?_) (fun c40 => ?_)
          · refine j_const hx hb dX5_rentsOf_47 ?_
            refine j_add hx hb dX5_rentsOf_48 ?_
            refine lv_istore (lv' := [(4, .int (J ((lo (gd (V 0 0) (fun x h => x + pI (asked V ks st out h))) 0 i) + 0))), (6, .ref (ha i)), (5, .int (J i)), (0, .ref tw), (1, .int (J ks)), (2, .int (J st)), (3, .int (J out))]) hx hb dX5_rentsOf_49 hl (by decide) rfl (fun ls hl => ?_)
            refine lv_iinc (v := J (i + 1)) (lv' := [(5, .int (J (i + 1))), (4, .int (J ((lo (gd (V 0 0) (fun x h => x + pI (asked V ks st out h))) 0 i) + 0))), (6, .ref (ha i)), (0, .ref tw), (1, .int (J ks)), (2, .int (J st)), (3, .int (J out))]) hx hb dX5_rentsOf_51 hl (k := 2) rfl (J_add _ _) (by decide) rfl (fun ls hl => ?_)
            refine lv_goto (tgt := 6) hx hb dX5_rentsOf_54 (by decide) ?_
            exact ih6 (i + 1) (by omega) (by omega) _ (lv_sub hl [0, 1, 3, 4, 5, 6] (by rw [show (lo (gd (V 0 0) (fun x h => x + pI (asked V ks st out h))) 0 (i + 1) : Int) = (lo (gd (V 0 0) (fun x h => x + pI (asked V ks st out h))) 0 i) + 0 from (by rw [lo_s _ _ (by omega)]; simp only [gd, pI] <;> (repeat' split) <;> first | rfl | omega | (exfalso; omega) | (exfalso; contradiction) | (exfalso; simp_all))]; try rfl))
          · refine j_const hx hb dX5_rentsOf_43 ?_
            refine lv_goto (tgt := 48) hx hb dX5_rentsOf_44 (by decide) ?_
            refine j_add hx hb dX5_rentsOf_48 ?_
            refine lv_istore (lv' := [(4, .int (J ((lo (gd (V 0 0) (fun x h => x + pI (asked V ks st out h))) 0 i) + 1))), (6, .ref (ha i)), (5, .int (J i)), (0, .ref tw), (1, .int (J ks)), (2, .int (J st)), (3, .int (J out))]) hx hb dX5_rentsOf_49 hl (by decide) rfl (fun ls hl => ?_)
            refine lv_iinc (v := J (i + 1)) (lv' := [(5, .int (J (i + 1))), (4, .int (J ((lo (gd (V 0 0) (fun x h => x + pI (asked V ks st out h))) 0 i) + 1))), (6, .ref (ha i)), (0, .ref tw), (1, .int (J ks)), (2, .int (J st)), (3, .int (J out))]) hx hb dX5_rentsOf_51 hl (k := 2) rfl (J_add _ _) (by decide) rfl (fun ls hl => ?_)
            refine lv_goto (tgt := 6) hx hb dX5_rentsOf_54 (by decide) ?_
            exact ih6 (i + 1) (by omega) (by omega) _ (lv_sub hl [0, 1, 3, 4, 5, 6] (by rw [show (lo (gd (V 0 0) (fun x h => x + pI (asked V ks st out h))) 0 (i + 1) : Int) = (lo (gd (V 0 0) (fun x h => x + pI (asked V ks st out h))) 0 i) + 1 from (by rw [lo_s _ _ (by omega)]; simp only [gd, pI] <;> (repeat' split) <;> first | rfl | omega | (exfalso; omega) | (exfalso; contradiction) | (exfalso; simp_all))]; try rfl))
        · refine j_qn (qN_n sp22) ?_
          refine lv_astoreN (lv' := [(6, .null), (5, .int (J i)), (4, .int (J (lo (gd (V 0 0) (fun x h => x + pI (asked V ks st out h))) 0 i))), (0, .ref tw), (1, .int (J ks)), (2, .int (J st)), (3, .int (J out))]) hx hb dX5_rentsOf_23 hl (by decide) rfl (fun ls hl => ?_)
          refine lv_iload hx hb dX5_rentsOf_25 (lv_at hl 2 rfl) ?_
          refine lv_aloadN hx hb dX5_rentsOf_27 (lv_at hl 0 rfl) ?_
          refine lv_ifnullN (tgt := 47) hx hb dX5_rentsOf_29 (by decide) ?_
          refine j_const hx hb dX5_rentsOf_47 ?_
          refine j_add hx hb dX5_rentsOf_48 ?_
          refine lv_istore (lv' := [(4, .int (J ((lo (gd (V 0 0) (fun x h => x + pI (asked V ks st out h))) 0 i) + 0))), (6, .null), (5, .int (J i)), (0, .ref tw), (1, .int (J ks)), (2, .int (J st)), (3, .int (J out))]) hx hb dX5_rentsOf_49 hl (by decide) rfl (fun ls hl => ?_)
          refine lv_iinc (v := J (i + 1)) (lv' := [(5, .int (J (i + 1))), (4, .int (J ((lo (gd (V 0 0) (fun x h => x + pI (asked V ks st out h))) 0 i) + 0))), (6, .null), (0, .ref tw), (1, .int (J ks)), (2, .int (J st)), (3, .int (J out))]) hx hb dX5_rentsOf_51 hl (k := 2) rfl (J_add _ _) (by decide) rfl (fun ls hl => ?_)
          refine lv_goto (tgt := 6) hx hb dX5_rentsOf_54 (by decide) ?_
          exact ih6 (i + 1) (by omega) (by omega) _ (lv_sub hl [0, 1, 3, 4, 5, 6] (by rw [show (lo (gd (V 0 0) (fun x h => x + pI (asked V ks st out h))) 0 (i + 1) : Int) = (lo (gd (V 0 0) (fun x h => x + pI (asked V ks st out h))) 0 i) + 0 from (by rw [lo_s _ _ (by omega)]; simp only [gd, pI] <;> (repeat' split) <;> first | rfl | omega | (exfalso; omega) | (exfalso; contradiction) | (exfalso; simp_all))]; try rfl))
  exact lp6 41 0 (by omega) (by omega) _ (lv_sub hl [0, 1, 2, 3, 4, 5] (by rw [show (lo (gd (V 0 0) (fun x h => x + pI (asked V ks st out h))) 0 0 : Int) = 0 from (by rfl)]; try rfl))

abbrev rmX5_lesserThan : Room := { frames := 1, cells := 0, slots := 0, locals := 25 }
set_option maxHeartbeats 4000000 in
set_option maxRecDepth 100000 in
theorem c_X5_lesserThan (l : Launch) (G : GG) (tw hs : Nat) (ha ea : Int → Nat) (V : St) (j ks st out : Int) (h_j : 0 ≤ j ∧ j < V 0 0) (g_ks : -2147483648 ≤ ks ∧ ks < 2147483648) (g_st : -2147483648 ≤ st ∧ st < 2147483648) (g_out : -2147483648 ≤ out ∧ out < 2147483648) : MP l G yX5_lesserThan wsX5_lesserThan rmX5_lesserThan [.ref tw, .ref (ha j), .int (J ks), .int (J st), .int (J out)] (fun H => Tn G H tw hs ha ea V) (.int (J (rank V ks st out j)) : Value) := by
  refine MP.of (cc := cX5_lesserThan) (maxL := 8) (ret := (some .int)) (by decide) rfl (Nat.le_of_ble_eq_true rfl) ?_
  intro p e s m below meth c hx hb hr hml hown hts hlk hK hP ls hl
  have hown : s.vm.findClass RX5 = some m.cls := hown
  have hl : lv_has ls 8 [(0, .ref tw), (1, .ref (ha j)), (2, .int (J ks)), (3, .int (J st)), (4, .int (J out))] := hl
  have inX5_ : ∀ w ∈ u_ws RX5 TX5 2, w ∈ wsX5_lesserThan := by decide +kernel
  have lk0 := hts (.fieldLink RX5 11 "RateBook$Town" "houses" "[LRateBook$House;") (by decide +kernel)
  have hT : Tn G s.heap tw hs ha ea V := hP
  obtain ⟨hT1, hT2, hT3, hT4⟩ := id hT
  have hn := hT1.n
  have hJ := hT4 j h_j.1 h_j.2
  have hjh := hT1.h h_j.1 h_j.2
  refine j_const hx hb dX5_lesserThan_0 ?_
  refine lv_istore (lv' := [(5, .int (J 0)), (0, .ref tw), (1, .ref (ha j)), (2, .int (J ks)), (3, .int (J st)), (4, .int (J out))]) hx hb dX5_lesserThan_1 hl (by decide) rfl (fun ls hl => ?_)
  refine j_const hx hb dX5_lesserThan_3 ?_
  refine lv_istore (lv' := [(6, .int (J 0)), (5, .int (J 0)), (0, .ref tw), (1, .ref (ha j)), (2, .int (J ks)), (3, .int (J st)), (4, .int (J out))]) hx hb dX5_lesserThan_4 hl (by decide) rfl (fun ls hl => ?_)
  have lp6 : ∀ (n : Nat) (i : Int) (i0 : 0 ≤ i ∧ i ≤ 40) (hm : 40 - i < (n : Int)) (ls : Array Slot) (hl : lv_has ls 8 [(6, .int (J i)), (5, .int (J (lo (gd (V 0 0) (fun x o => x + pI (asked V ks st out o ∧ less V o j))) 0 i))), (0, .ref tw), (1, .ref (ha j)), (2, .int (J ks)), (3, .int (J st)), (4, .int (J out))]), W p l e (headSpec wsX5_lesserThan rmX5_lesserThan).room s m ([.ref tw, .ref (ha j), .int (J ks), .int (J st), .int (J out)] : List Value).toArray below meth c s.heap [] 0 0 (MQ below (k2_QcV (.int (J (rank V ks st out j)) : Value)) ([.ref tw, .ref (ha j), .int (J ks), .int (J st), .int (J out)] : List Value).toArray s 0 0 (fun _ => False)) (F0 m 6 ls []) := by
    intro n
    induction n with
    | zero =>
      intro i i0 hm ls hl
      exact absurd hm (by omega)
    | succ n ih6 =>
      intro i i0 hm ls hl
      refine lv_iload hx hb dX5_lesserThan_6 (lv_at hl 0 rfl) ?_
      refine lv_aload_n hx hb dX5_lesserThan_8 rfl (lv_at hl 2 rfl) ?_
      refine j_get (ci := 5) (v := .ref hs) hx hb hts inX5_ hown hK hT2 rfl 0 (by decide) lk0 (fun _ h9 => h9) rfl dX5_lesserThan_9 ?_
      refine j_alQ (C := RX2) hx hb hK hT3 rfl dX5_lesserThan_12 ?_
      refine j_re (y := 40) rfl ?_
      refine j_cge (tgt := 67) hx hb (by omega) (by omega) (by decide) (by decide) dX5_lesserThan_13 (by decide) (fun c13 => ?_) (fun c13 => ?_)
      · refine lv_iload hx hb dX5_lesserThan_67 (lv_at hl 1 rfl) ?_
        exact r_i hx hb hr hlk (congrArg (fun z => Value.int (J z)) (show (lo (gd (V 0 0) (fun x o => x + pI (asked V ks st out o ∧ less V o j))) 0 i : Int) = rank V ks st out j from by rw [show i = 40 by omega]; exact lo_gd hn.1 hn.2)) dX5_lesserThan_69
      · refine lv_aload_n hx hb dX5_lesserThan_16 rfl (lv_at hl 2 rfl) ?_
        refine j_get (ci := 5) (v := .ref hs) hx hb hts inX5_ hown hK hT2 rfl 0 (by decide) lk0 (fun _ h9 => h9) rfl dX5_lesserThan_17 ?_
        refine lv_iload hx hb dX5_lesserThan_20 (lv_at hl 0 rfl) ?_
        refine j_aald (C := RX2) hx hb hK hT3 rfl (by omega) (by omega) (by decide) dX5_lesserThan_22 ?_
        by_cases sp22 : 0 ≤ i ∧ i < V 0 0
        · refine j_qs (b := ha i) (qN_s sp22) ?_
          have hce_1 : At G s.heap (ha i) (eHo V (ea) i) := hT4 i sp22.1 sp22.2
          have hih_2 := hT1.h sp22.1 sp22.2
          refine lv_astore (lv' := [(7, .ref (ha i)), (6, .int (J i)), (5, .int (J (lo (gd (V 0 0) (fun x o => x + pI (asked V ks st out o ∧ less V o j))) 0 i))), (0, .ref tw), (1, .ref (ha j)), (2, .int (J ks)), (3, .int (J st)), (4, .int (J out))]) hx hb dX5_lesserThan_23 hl (by decide) rfl (fun ls hl => ?_)
          refine lv_iload hx hb dX5_lesserThan_25 (lv_at hl 2 rfl) ?_
          refine lv_aload hx hb dX5_lesserThan_27 (lv_at hl 0 rfl) ?_
          refine lv_ifnull hx hb dX5_lesserThan_29 ?_
          refine lv_aload hx hb dX5_lesserThan_32 (lv_at hl 0 rfl) ?_
          refine lv_iload_n hx hb dX5_lesserThan_34 rfl (lv_at hl 5 rfl) ?_
          refine lv_iload_n hx hb dX5_lesserThan_35 rfl (lv_at hl 6 rfl) ?_
          refine lv_iload hx hb dX5_lesserThan_36 (lv_at hl 7 rfl) ?_
          refine k_V (ci := 2) (b := ha i) (As := [.int (J ks), .int (J st), .int (J out)]) (rest := [.int (J (lo (gd (V 0 0) (fun x o => x + pI (asked V ks st out o ∧ less V o j))) 0 i))]) (v := .int (J (pI (asked V ks st out i)))) hx hb hml hown hts hK hl.1 (c_X2_tells l G ha ea V i ks st out ((by omega)) hih_2 g_ks g_st g_out) (cwV 3 hts gX5_lesserThan_X2_tells rfl rfl rfl (by decide +kernel) ⟨Nat.le_of_ble_eq_true rfl, Nat.le_of_ble_eq_true rfl⟩) hce_1 rfl hce_1 rfl rfl (Nat.le_of_ble_eq_true rfl) dX5_lesserThan_38 ⟨Nat.zero_le _, Nat.zero_le _⟩ ?_
          refine j_eqP (tgt := 57) hx hb dX5_lesserThan_41 (by decide) (fun c41 => ?_) (fun c41 => ?_)
          · refine j_const hx hb dX5_lesserThan_57 ?_
            refine j_add hx hb dX5_lesserThan_58 ?_
            refine lv_istore (lv' := [(5, .int (J ((lo (gd (V 0 0) (fun x o => x + pI (asked V ks st out o ∧ less V o j))) 0 i) + 0))), (7, .ref (ha i)), (6, .int (J i)), (0, .ref tw), (1, .ref (ha j)), (2, .int (J ks)), (3, .int (J st)), (4, .int (J out))]) hx hb dX5_lesserThan_59 hl (by decide) rfl (fun ls hl => ?_)
            refine lv_iinc (v := J (i + 1)) (lv' := [(6, .int (J (i + 1))), (5, .int (J ((lo (gd (V 0 0) (fun x o => x + pI (asked V ks st out o ∧ less V o j))) 0 i) + 0))), (7, .ref (ha i)), (0, .ref tw), (1, .ref (ha j)), (2, .int (J ks)), (3, .int (J st)), (4, .int (J out))]) hx hb dX5_lesserThan_61 hl (k := 2) rfl (J_add _ _) (by decide) rfl (fun ls hl => ?_)
            refine lv_goto (tgt := 6) hx hb dX5_lesserThan_64 (by decide) ?_
            exact ih6 (i + 1) (by omega) (by omega) _ (lv_sub hl [0, 1, 3, 4, 5, 6, 7] (by rw [show (lo (gd (V 0 0) (fun x o => x + pI (asked V ks st out o ∧ less V o j))) 0 (i + 1) : Int) = (lo (gd (V 0 0) (fun x o => x + pI (asked V ks st out o ∧ less V o j))) 0 i) + 0 from (by rw [lo_s _ _ (by omega)]; simp only [gd, pI] <;> (repeat' split) <;> first | rfl | omega | (exfalso; omega) | (exfalso; contradiction) | (exfalso; simp_all))]; try rfl))
          · refine lv_aload hx hb dX5_lesserThan_44 (lv_at hl 0 rfl) ?_
            refine lv_aload_n hx hb dX5_lesserThan_46 rfl (lv_at hl 4 rfl) ?_
            refine k_V (ci := 2) (b := ha i) (As := [.ref (ha j)]) (rest := [.int (J (lo (gd (V 0 0) (fun x o => x + pI (asked V ks st out o ∧ less V o j))) 0 i))]) (v := .int (J (pI (less V i j)))) hx hb hml hown hts hK hl.1 (c_X2_hasLesserRent l G ha ea V i j ((by omega)) hih_2 ((by omega)) hjh) (cwV 1 hts gX5_lesserThan_X2_hasLesserRent rfl rfl rfl (by decide +kernel) ⟨Nat.le_of_ble_eq_true rfl, Nat.le_of_ble_eq_true rfl⟩) hce_1 rfl (⟨hce_1, hJ⟩) rfl rfl (Nat.le_of_ble_eq_true rfl) dX5_lesserThan_47 ⟨Nat.zero_le _, Nat.zero_le _⟩ ?_
            refine j_eqP (tgt := 57) hx hb dX5_lesserThan_50 (by decide) (fun c50 => ?_) (fun c50 => ?_)
            · refine j_const hx hb dX5_lesserThan_57 ?_
              refine j_add hx hb dX5_lesserThan_58 ?_
              refine lv_istore (lv' := [(5, .int (J ((lo (gd (V 0 0) (fun x o => x + pI (asked V ks st out o ∧ less V o j))) 0 i) + 0))), (7, .ref (ha i)), (6, .int (J i)), (0, .ref tw), (1, .ref (ha j)), (2, .int (J ks)), (3, .int (J st)), (4, .int (J out))]) hx hb dX5_lesserThan_59 hl (by decide) rfl (fun ls hl => ?_)
              refine lv_iinc (v := J (i + 1)) (lv' := [(6, .int (J (i + 1))), (5, .int (J ((lo (gd (V 0 0) (fun x o => x + pI (asked V ks st out o ∧ less V o j))) 0 i) + 0))), (7, .ref (ha i)), (0, .ref tw), (1, .ref (ha j)), (2, .int (J ks)), (3, .int (J st)), (4, .int (J out))]) hx hb dX5_lesserThan_61 hl (k := 2) rfl (J_add _ _) (by decide) rfl (fun ls hl => ?_)
              refine lv_goto (tgt := 6) hx hb dX5_lesserThan_64 (by decide) ?_
              exact ih6 (i + 1) (by omega) (by omega) _ (lv_sub hl [0, 1, 3, 4, 5, 6, 7] (by rw [show (lo (gd (V 0 0) (fun x o => x + pI (asked V ks st out o ∧ less V o j))) 0 (i + 1) : Int) = (lo (gd (V 0 0) (fun x o => x + pI (asked V ks st out o ∧ less V o j))) 0 i) + 0 from (by rw [lo_s _ _ (by omega)]; simp only [gd, pI] <;> (repeat' split) <;> first | rfl | omega | (exfalso; omega) | (exfalso; contradiction) | (exfalso; simp_all))]; try rfl))
            · refine j_const hx hb dX5_lesserThan_53 ?_
              refine lv_goto (tgt := 58) hx hb dX5_lesserThan_54 (by decide) ?_
              refine j_add hx hb dX5_lesserThan_58 ?_
              refine lv_istore (lv' := [(5, .int (J ((lo (gd (V 0 0) (fun x o => x + pI (asked V ks st out o ∧ less V o j))) 0 i) + 1))), (7, .ref (ha i)), (6, .int (J i)), (0, .ref tw), (1, .ref (ha j)), (2, .int (J ks)), (3, .int (J st)), (4, .int (J out))]) hx hb dX5_lesserThan_59 hl (by decide) rfl (fun ls hl => ?_)
              refine lv_iinc (v := J (i + 1)) (lv' := [(6, .int (J (i + 1))), (5, .int (J ((lo (gd (V 0 0) (fun x o => x + pI (asked V ks st out o ∧ less V o j))) 0 i) + 1))), (7, .ref (ha i)), (0, .ref tw), (1, .ref (ha j)), (2, .int (J ks)), (3, .int (J st)), (4, .int (J out))]) hx hb dX5_lesserThan_61 hl (k := 2) rfl (J_add _ _) (by decide) rfl (fun ls hl => ?_)
              refine lv_goto (tgt := 6) hx hb dX5_lesserThan_64 (by decide) ?_
              exact ih6 (i + 1) (by omega) (by omega) _ (lv_sub hl [0, 1, 3, 4, 5, 6, 7] (by rw [show (lo (gd (V 0 0) (fun x o => x + pI (asked V ks st out o ∧ less V o j))) 0 (i + 1) : Int) = (lo (gd (V 0 0) (fun x o => x + pI (asked V ks st out o ∧ less V o j))) 0 i) + 1 from (by rw [lo_s _ _ (by omega)]; simp only [gd, pI] <;> (repeat' split) <;> first | rfl | omega | (exfalso; omega) | (exfalso; contradiction) | (exfalso; simp_all))]; try rfl))
        · refine j_qn (qN_n sp22) ?_
          refine lv_astoreN (lv' := [(7, .null), (6, .int (J i)), (5, .int (J (lo (gd (V 0 0) (fun x o => x + pI (asked V ks st out o ∧ less V o j))) 0 i))), (0, .ref tw), (1, .ref (ha j)), (2, .int (J ks)), (3, .int (J st)), (4, .int (J out))]) hx hb dX5_lesserThan_23 hl (by decide) rfl (fun ls hl => ?_)
          refine lv_iload hx hb dX5_lesserThan_25 (lv_at hl 2 rfl) ?_
          refine lv_aloadN hx hb dX5_lesserThan_27 (lv_at hl 0 rfl) ?_
          refine lv_ifnullN (tgt := 57) hx hb dX5_lesserThan_29 (by decide) ?_
          refine j_const hx hb dX5_lesserThan_57 ?_
          refine j_add hx hb dX5_lesserThan_58 ?_
          refine lv_istore (lv' := [(5, .int (J ((lo (gd (V 0 0) (fun x o => x + pI (asked V ks st out o ∧ less V o j))) 0 i) + 0))), (7, .null), (6, .int (J i)), (0, .ref tw), (1, .ref (ha j)), (2, .int (J ks)), (3, .int (J st)), (4, .int (J out))]) hx hb dX5_lesserThan_59 hl (by decide) rfl (fun ls hl => ?_)
          refine lv_iinc (v := J (i + 1)) (lv' := [(6, .int (J (i + 1))), (5, .int (J ((lo (gd (V 0 0) (fun x o => x + pI (asked V ks st out o ∧ less V o j))) 0 i) + 0))), (7, .null), (0, .ref tw), (1, .ref (ha j)), (2, .int (J ks)), (3, .int (J st)), (4, .int (J out))]) hx hb dX5_lesserThan_61 hl (k := 2) rfl (J_add _ _) (by decide) rfl (fun ls hl => ?_)
          refine lv_goto (tgt := 6) hx hb dX5_lesserThan_64 (by decide) ?_
          exact ih6 (i + 1) (by omega) (by omega) _ (lv_sub hl [0, 1, 3, 4, 5, 6, 7] (by rw [show (lo (gd (V 0 0) (fun x o => x + pI (asked V ks st out o ∧ less V o j))) 0 (i + 1) : Int) = (lo (gd (V 0 0) (fun x o => x + pI (asked V ks st out o ∧ less V o j))) 0 i) + 0 from (by rw [lo_s _ _ (by omega)]; simp only [gd, pI] <;> (repeat' split) <;> first | rfl | omega | (exfalso; omega) | (exfalso; contradiction) | (exfalso; simp_all))]; try rfl))
  exact lp6 41 0 (by omega) (by omega) _ (lv_sub hl [0, 1, 2, 3, 4, 5, 6] (by rw [show (lo (gd (V 0 0) (fun x o => x + pI (asked V ks st out o ∧ less V o j))) 0 0 : Int) = 0 from (by rfl)]; try rfl))

abbrev rmX5_middleOf : Room := { frames := 2, cells := 0, slots := 0, locals := 52 }
set_option maxHeartbeats 4000000 in
set_option maxRecDepth 100000 in
theorem c_X5_middleOf (l : Launch) (G : GG) (tw hs : Nat) (ha ea : Int → Nat) (V : St) (ks st out r : Int) (g_ks : -2147483648 ≤ ks ∧ ks < 2147483648) (g_st : -2147483648 ≤ st ∧ st < 2147483648) (g_out : -2147483648 ≤ out ∧ out < 2147483648) (g_r : -2147483648 ≤ r ∧ r < 2147483648) : MP l G yX5_middleOf wsX5_middleOf rmX5_middleOf [.ref tw, .int (J ks), .int (J st), .int (J out), .int (J r)] (fun H => Tn G H tw hs ha ea V) (va_rf (Option.map ha (mid V ks st out r)) : Value) := by
  refine MP.of (cc := cX5_middleOf) (maxL := 7) (ret := (some (.object "RateBook$House"))) (by decide) rfl (Nat.le_of_ble_eq_true rfl) ?_
  intro p e s m below meth c hx hb hr hml hown hts hlk hK hP ls hl
  have hown : s.vm.findClass RX5 = some m.cls := hown
  have hl : lv_has ls 7 [(0, .ref tw), (1, .int (J ks)), (2, .int (J st)), (3, .int (J out)), (4, .int (J r))] := hl
  have inX5_ : ∀ w ∈ u_ws RX5 TX5 2, w ∈ wsX5_middleOf := by decide +kernel
  have lk0 := hts (.fieldLink RX5 11 "RateBook$Town" "houses" "[LRateBook$House;") (by decide +kernel)
  have hT : Tn G s.heap tw hs ha ea V := hP
  obtain ⟨hT1, hT2, hT3, hT4⟩ := id hT
  have hn := hT1.n
  refine j_const hx hb dX5_middleOf_0 ?_
  refine lv_istore (lv' := [(5, .int (J 0)), (0, .ref tw), (1, .int (J ks)), (2, .int (J st)), (3, .int (J out)), (4, .int (J r))]) hx hb dX5_middleOf_1 hl (by decide) rfl (fun ls hl => ?_)
  have lp3 : ∀ (n : Nat) (i : Int) (i0 : 0 ≤ i ∧ i ≤ 40) (hno : lo (gd (V 0 0) (gMid V ks st out r)) none i = none) (hm : 40 - i < (n : Int)) (ls : Array Slot) (hl : lv_has ls 7 [(5, .int (J i)), (0, .ref tw), (1, .int (J ks)), (2, .int (J st)), (3, .int (J out)), (4, .int (J r))]), W p l e (headSpec wsX5_middleOf rmX5_middleOf).room s m ([.ref tw, .int (J ks), .int (J st), .int (J out), .int (J r)] : List Value).toArray below meth c s.heap [] 0 0 (MQ below (k2_QcV (va_rf (Option.map ha (mid V ks st out r)) : Value)) ([.ref tw, .int (J ks), .int (J st), .int (J out), .int (J r)] : List Value).toArray s 0 0 (fun _ => False)) (F0 m 3 ls []) := by
    intro n
    induction n with
    | zero =>
      intro i i0 hno hm ls hl
      exact absurd hm (by omega)
    | succ n ih3 =>
      intro i i0 hno hm ls hl
      refine lv_iload hx hb dX5_middleOf_3 (lv_at hl 0 rfl) ?_
      refine lv_aload_n hx hb dX5_middleOf_5 rfl (lv_at hl 1 rfl) ?_
      refine j_get (ci := 5) (v := .ref hs) hx hb hts inX5_ hown hK hT2 rfl 0 (by decide) lk0 (fun _ h9 => h9) rfl dX5_middleOf_6 ?_
      refine j_alQ (C := RX2) hx hb hK hT3 rfl dX5_middleOf_9 ?_
      refine j_re (y := 40) rfl ?_
      refine j_cge (tgt := 61) hx hb (by omega) (by omega) (by decide) (by decide) dX5_middleOf_10 (by decide) (fun c10 => ?_) (fun c10 => ?_)
      · refine lv_null hx hb dX5_middleOf_61 ?_
        exact r_a hx hb hr hlk (o := none) rfl (congrArg va_rf (show (none : Option Nat) = Option.map ha (mid V ks st out r) from by rw [mid_none hT1 (by omega) hno]; rfl)) dX5_middleOf_62
      · refine lv_aload_n hx hb dX5_middleOf_13 rfl (lv_at hl 1 rfl) ?_
        refine j_get (ci := 5) (v := .ref hs) hx hb hts inX5_ hown hK hT2 rfl 0 (by decide) lk0 (fun _ h9 => h9) rfl dX5_middleOf_14 ?_
        refine lv_iload hx hb dX5_middleOf_17 (lv_at hl 0 rfl) ?_
        refine j_aald (C := RX2) hx hb hK hT3 rfl (by omega) (by omega) (by decide) dX5_middleOf_19 ?_
        by_cases sp19 : 0 ≤ i ∧ i < V 0 0
        · refine j_qs (b := ha i) (qN_s sp19) ?_
          have hce_1 : At G s.heap (ha i) (eHo V (ea) i) := hT4 i sp19.1 sp19.2
          have hih_2 := hT1.h sp19.1 sp19.2
          refine lv_astore (lv' := [(6, .ref (ha i)), (5, .int (J i)), (0, .ref tw), (1, .int (J ks)), (2, .int (J st)), (3, .int (J out)), (4, .int (J r))]) hx hb dX5_middleOf_20 hl (by decide) rfl (fun ls hl => ?_)
          refine lv_aload hx hb dX5_middleOf_22 (lv_at hl 0 rfl) ?_
          refine lv_ifnull hx hb dX5_middleOf_24 ?_
          refine lv_aload hx hb dX5_middleOf_27 (lv_at hl 0 rfl) ?_
          refine lv_iload_n hx hb dX5_middleOf_29 rfl (lv_at hl 3 rfl) ?_
          refine lv_iload_n hx hb dX5_middleOf_30 rfl (lv_at hl 4 rfl) ?_
          refine lv_iload_n hx hb dX5_middleOf_31 rfl (lv_at hl 5 rfl) ?_
          refine k_V (ci := 2) (b := ha i) (As := [.int (J ks), .int (J st), .int (J out)]) (rest := []) (v := .int (J (pI (asked V ks st out i)))) hx hb hml hown hts hK hl.1 (c_X2_tells l G ha ea V i ks st out ((by omega)) hih_2 g_ks g_st g_out) (cwV 3 hts gX5_middleOf_X2_tells rfl rfl rfl (by decide +kernel) ⟨Nat.le_of_ble_eq_true rfl, Nat.le_of_ble_eq_true rfl⟩) hce_1 rfl hce_1 rfl rfl (Nat.le_of_ble_eq_true rfl) dX5_middleOf_32 ⟨Nat.zero_le _, Nat.zero_le _⟩ ?_
          refine j_eqP (tgt := 55) hx hb dX5_middleOf_35 (by decide) (fun c35 => ?_) (fun c35 => ?_)
          · refine lv_iinc (v := J (i + 1)) (lv' := [(5, .int (J (i + 1))), (6, .ref (ha i)), (0, .ref tw), (1, .int (J ks)), (2, .int (J st)), (3, .int (J out)), (4, .int (J r))]) hx hb dX5_middleOf_55 hl (k := 1) rfl (J_add _ _) (by decide) rfl (fun ls hl => ?_)
            refine lv_goto (tgt := 3) hx hb dX5_middleOf_58 (by decide) ?_
            exact ih3 (i + 1) (by omega) (by rw [lo_s _ _ (by omega), hno]; simp only [gd, gMid] <;> (repeat' split) <;> first | rfl | omega | (exfalso; omega) | (exfalso; contradiction) | (exfalso; simp_all)) (by omega) _ (lv_sub hl [0, 2, 3, 4, 5, 6] rfl)
          · refine lv_aload_n hx hb dX5_middleOf_38 rfl (lv_at hl 2 rfl) ?_
            refine lv_aload hx hb dX5_middleOf_39 (lv_at hl 0 rfl) ?_
            refine lv_iload_n hx hb dX5_middleOf_41 rfl (lv_at hl 3 rfl) ?_
            refine lv_iload_n hx hb dX5_middleOf_42 rfl (lv_at hl 4 rfl) ?_
            refine lv_iload_n hx hb dX5_middleOf_43 rfl (lv_at hl 5 rfl) ?_
            refine k_V (ci := 5) (b := tw) (As := [.ref (ha i), .int (J ks), .int (J st), .int (J out)]) (rest := []) (v := .int (J (rank V ks st out i))) hx hb hml hown hts hK hl.1 (c_X5_lesserThan l G tw hs ha ea V i ks st out ((by omega)) g_ks g_st g_out) (cwV 4 hts gX5_middleOf_X5_lesserThan rfl rfl rfl (by decide +kernel) ⟨Nat.le_of_ble_eq_true rfl, Nat.le_of_ble_eq_true rfl⟩) hT2 rfl hT rfl rfl (Nat.le_of_ble_eq_true rfl) dX5_middleOf_44 ⟨Nat.zero_le _, Nat.zero_le _⟩ ?_
            have hrk := rank_rng hT1 ks st out i
            refine lv_iload hx hb dX5_middleOf_47 (lv_at hl 6 rfl) ?_
            refine j_cne (tgt := 55) hx hb (by omega) (by omega) (by omega) (by omega) dX5_middleOf_49 (by decide) (fun c49 => ?_) (fun c49 => ?_)
            · refine lv_iinc (v := J (i + 1)) (lv' := [(5, .int (J (i + 1))), (6, .ref (ha i)), (0, .ref tw), (1, .int (J ks)), (2, .int (J st)), (3, .int (J out)), (4, .int (J r))]) hx hb dX5_middleOf_55 hl (k := 1) rfl (J_add _ _) (by decide) rfl (fun ls hl => ?_)
              refine lv_goto (tgt := 3) hx hb dX5_middleOf_58 (by decide) ?_
              exact ih3 (i + 1) (by omega) (by rw [lo_s _ _ (by omega), hno]; simp only [gd, gMid] <;> (repeat' split) <;> first | rfl | omega | (exfalso; omega) | (exfalso; contradiction) | (exfalso; simp_all)) (by omega) _ (lv_sub hl [0, 2, 3, 4, 5, 6] rfl)
            · refine lv_aload hx hb dX5_middleOf_52 (lv_at hl 0 rfl) ?_
              exact r_a hx hb hr hlk (o := some (ha i)) rfl (congrArg va_rf (show (some (ha i) : Option Nat) = Option.map ha (mid V ks st out r) from by rw [mid_hit (by omega) (by omega) hno ⟨by assumption, by omega⟩]; rfl)) dX5_middleOf_54
        · refine j_qn (qN_n sp19) ?_
          refine lv_astoreN (lv' := [(6, .null), (5, .int (J i)), (0, .ref tw), (1, .int (J ks)), (2, .int (J st)), (3, .int (J out)), (4, .int (J r))]) hx hb dX5_middleOf_20 hl (by decide) rfl (fun ls hl => ?_)
          refine lv_aloadN hx hb dX5_middleOf_22 (lv_at hl 0 rfl) ?_
          refine lv_ifnullN (tgt := 55) hx hb dX5_middleOf_24 (by decide) ?_
          refine lv_iinc (v := J (i + 1)) (lv' := [(5, .int (J (i + 1))), (6, .null), (0, .ref tw), (1, .int (J ks)), (2, .int (J st)), (3, .int (J out)), (4, .int (J r))]) hx hb dX5_middleOf_55 hl (k := 1) rfl (J_add _ _) (by decide) rfl (fun ls hl => ?_)
          refine lv_goto (tgt := 3) hx hb dX5_middleOf_58 (by decide) ?_
          exact ih3 (i + 1) (by omega) (by rw [lo_s _ _ (by omega), hno]; simp only [gd, gMid] <;> (repeat' split) <;> first | rfl | omega | (exfalso; omega) | (exfalso; contradiction) | (exfalso; simp_all)) (by omega) _ (lv_sub hl [0, 2, 3, 4, 5, 6] rfl)
  exact lp3 41 0 (by omega) rfl (by omega) _ (lv_sub hl [0, 1, 2, 3, 4, 5] rfl)

abbrev rmX5_isIn : Room := { frames := 1, cells := 0, slots := 0, locals := 21 }
set_option maxHeartbeats 4000000 in
set_option maxRecDepth 100000 in
theorem c_X5_isIn (l : Launch) (G : GG) (tw hs : Nat) (ha ea : Int → Nat) (V : St) (z w_ : Int) (g_z : -2147483648 ≤ z ∧ z < 2147483648) (g_w_ : -2147483648 ≤ w_ ∧ w_ < 2147483648) : MP l G yX5_isIn wsX5_isIn rmX5_isIn [.ref tw, .int (J z), .int (J w_)] (fun H => Tn G H tw hs ha ea V) (.int (J (pI ((0 ≤ z ∧ z < V 0 0) ∧ (w_ = -1 ∨ V 1 z = w_)))) : Value) := by
  refine MP.of (cc := cX5_isIn) (maxL := 4) (ret := (some .boolean)) (by decide) rfl (Nat.le_of_ble_eq_true rfl) ?_
  intro p e s m below meth c hx hb hr hml hown hts hlk hK hP ls hl
  have hown : s.vm.findClass RX5 = some m.cls := hown
  have hl : lv_has ls 4 [(0, .ref tw), (1, .int (J z)), (2, .int (J w_))] := hl
  have inX2_ : ∀ w ∈ u_ws RX2 TX2 7, w ∈ wsX5_isIn := by decide +kernel
  have lk0 := hts (.fieldLink RX5 28 "RateBook$House" "ward" "I") (by decide +kernel)
  have hT : Tn G s.heap tw hs ha ea V := hP
  obtain ⟨hT1, hT2, hT3, hT4⟩ := id hT
  have hn := hT1.n
  refine lv_aload_n hx hb dX5_isIn_0 rfl (lv_at hl 0 rfl) ?_
  refine lv_iload_n hx hb dX5_isIn_1 rfl (lv_at hl 1 rfl) ?_
  refine k_V (ci := 5) (b := tw) (As := [.int (J z)]) (rest := []) (v := va_rf (qN (V 0 0) ha z)) hx hb hml hown hts hK hl.1 (c_X5_at l G tw hs ha ea V z ((by omega))) (cwV 1 hts gX5_isIn_X5_at rfl rfl rfl (by decide +kernel) ⟨Nat.le_of_ble_eq_true rfl, Nat.le_of_ble_eq_true rfl⟩) hT2 rfl hT rfl rfl (Nat.le_of_ble_eq_true rfl) dX5_isIn_2 ⟨Nat.zero_le _, Nat.zero_le _⟩ ?_
  by_cases sp2 : 0 ≤ z ∧ z < V 0 0
  · refine j_qs (b := ha z) (qN_s sp2) ?_
    have hce_1 : At G s.heap (ha z) (eHo V (ea) z) := hT4 z sp2.1 sp2.2
    have hih_2 := hT1.h sp2.1 sp2.2
    refine lv_astore_n (lv' := [(3, .ref (ha z)), (0, .ref tw), (1, .int (J z)), (2, .int (J w_))]) hx hb dX5_isIn_5 rfl hl (by decide) rfl (fun ls hl => ?_)
    refine lv_aload_n hx hb dX5_isIn_6 rfl (lv_at hl 0 rfl) ?_
    refine lv_ifnull hx hb dX5_isIn_7 ?_
    refine lv_iload_n hx hb dX5_isIn_10 rfl (lv_at hl 3 rfl) ?_
    refine j_const hx hb dX5_isIn_11 ?_
    refine j_ceq (tgt := 23) hx hb (by omega) (by omega) (by decide) (by decide) dX5_isIn_12 (by decide) (fun c12 => ?_) (fun c12 => ?_)
    · refine j_const hx hb dX5_isIn_23 ?_
      refine lv_goto (tgt := 28) hx hb dX5_isIn_24 (by decide) ?_
      exact r_z hx hb hr hlk rfl (congrArg (fun z => Value.int (J z)) (show (1 : Int) = pI ((0 ≤ z ∧ z < V 0 0) ∧ (w_ = -1 ∨ V 1 z = w_)) from (pI_t (by omega)).symm)) dX5_isIn_28
    · refine lv_aload_n hx hb dX5_isIn_15 rfl (lv_at hl 0 rfl) ?_
      refine j_get (ci := 2) (v := .int (J (V 1 z))) hx hb hts inX2_ hown hK hce_1 rfl 1 (by decide) lk0 (fun _ h9 => h9) rfl dX5_isIn_16 ?_
      refine lv_iload_n hx hb dX5_isIn_19 rfl (lv_at hl 3 rfl) ?_
      refine j_cne (tgt := 27) hx hb (by omega) (by omega) (by omega) (by omega) dX5_isIn_20 (by decide) (fun c20 => ?_) (fun c20 => ?_)
      · refine j_const hx hb dX5_isIn_27 ?_
        exact r_z hx hb hr hlk rfl (congrArg (fun z => Value.int (J z)) (show (0 : Int) = pI ((0 ≤ z ∧ z < V 0 0) ∧ (w_ = -1 ∨ V 1 z = w_)) from (pI_f (by omega)).symm)) dX5_isIn_28
      · refine j_const hx hb dX5_isIn_23 ?_
        refine lv_goto (tgt := 28) hx hb dX5_isIn_24 (by decide) ?_
        exact r_z hx hb hr hlk rfl (congrArg (fun z => Value.int (J z)) (show (1 : Int) = pI ((0 ≤ z ∧ z < V 0 0) ∧ (w_ = -1 ∨ V 1 z = w_)) from (pI_t (by omega)).symm)) dX5_isIn_28
  · refine j_qn (qN_n sp2) ?_
    refine lv_astore_nN (lv' := [(3, .null), (0, .ref tw), (1, .int (J z)), (2, .int (J w_))]) hx hb dX5_isIn_5 rfl hl (by decide) rfl (fun ls hl => ?_)
    refine lv_aload_nN hx hb dX5_isIn_6 rfl (lv_at hl 0 rfl) ?_
    refine lv_ifnullN (tgt := 27) hx hb dX5_isIn_7 (by decide) ?_
    refine j_const hx hb dX5_isIn_27 ?_
    exact r_z hx hb hr hlk rfl (congrArg (fun z => Value.int (J z)) (show (0 : Int) = pI ((0 ≤ z ∧ z < V 0 0) ∧ (w_ = -1 ∨ V 1 z = w_)) from (pI_f (by omega)).symm)) dX5_isIn_28

abbrev rmX5_rentsKnown : Room := { frames := 0, cells := 0, slots := 0, locals := 0 }
set_option maxHeartbeats 4000000 in
set_option maxRecDepth 100000 in
theorem c_X5_rentsKnown (l : Launch) (G : GG) (tw hs : Nat) (ha ea : Int → Nat) (V : St) : MP l G yX5_rentsKnown wsX5_rentsKnown rmX5_rentsKnown [.ref tw] (fun H => Tn G H tw hs ha ea V) (.int (J (rkO V)) : Value) := by
  refine MP.of (cc := cX5_rentsKnown) (maxL := 4) (ret := (some .int)) (by decide) rfl (Nat.le_of_ble_eq_true rfl) ?_
  intro p e s m below meth c hx hb hr hml hown hts hlk hK hP ls hl
  have hown : s.vm.findClass RX5 = some m.cls := hown
  have hl : lv_has ls 4 [(0, .ref tw)] := hl
  have inX2_ : ∀ w ∈ u_ws RX2 TX2 7, w ∈ wsX5_rentsKnown := by decide +kernel
  have inX5_ : ∀ w ∈ u_ws RX5 TX5 2, w ∈ wsX5_rentsKnown := by decide +kernel
  have lk0 := hts (.fieldLink RX5 11 "RateBook$Town" "houses" "[LRateBook$House;") (by decide +kernel)
  have lk1 := hts (.fieldLink RX5 40 "RateBook$House" "rent" "I") (by decide +kernel)
  have hT : Tn G s.heap tw hs ha ea V := hP
  obtain ⟨hT1, hT2, hT3, hT4⟩ := id hT
  have hn := hT1.n
  refine j_const hx hb dX5_rentsKnown_0 ?_
  refine lv_istore_n (lv' := [(1, .int (J 0)), (0, .ref tw)]) hx hb dX5_rentsKnown_1 rfl hl (by decide) rfl (fun ls hl => ?_)
  refine j_const hx hb dX5_rentsKnown_2 ?_
  refine lv_istore_n (lv' := [(2, .int (J 0)), (1, .int (J 0)), (0, .ref tw)]) hx hb dX5_rentsKnown_3 rfl hl (by decide) rfl (fun ls hl => ?_)
  have lp4 : ∀ (n : Nat) (i : Int) (i0 : 0 ≤ i ∧ i ≤ 40) (hm : 40 - i < (n : Int)) (ls : Array Slot) (hl : lv_has ls 4 [(2, .int (J i)), (1, .int (J (lo (gd (V 0 0) (fun x o => x + pI (0 < V 5 o))) 0 i))), (0, .ref tw)]), W p l e (headSpec wsX5_rentsKnown rmX5_rentsKnown).room s m ([.ref tw] : List Value).toArray below meth c s.heap [] 0 0 (MQ below (k2_QcV (.int (J (rkO V)) : Value)) ([.ref tw] : List Value).toArray s 0 0 (fun _ => False)) (F0 m 4 ls []) := by
    intro n
    induction n with
    | zero =>
      intro i i0 hm ls hl
      exact absurd hm (by omega)
    | succ n ih4 =>
      intro i i0 hm ls hl
      refine lv_iload_n hx hb dX5_rentsKnown_4 rfl (lv_at hl 0 rfl) ?_
      refine lv_aload_n hx hb dX5_rentsKnown_5 rfl (lv_at hl 2 rfl) ?_
      refine j_get (ci := 5) (v := .ref hs) hx hb hts inX5_ hown hK hT2 rfl 0 (by decide) lk0 (fun _ h9 => h9) rfl dX5_rentsKnown_6 ?_
      refine j_alQ (C := RX2) hx hb hK hT3 rfl dX5_rentsKnown_9 ?_
      refine j_re (y := 40) rfl ?_
      refine j_cge (tgt := 45) hx hb (by omega) (by omega) (by decide) (by decide) dX5_rentsKnown_10 (by decide) (fun c10 => ?_) (fun c10 => ?_)
      · refine lv_iload_n hx hb dX5_rentsKnown_45 rfl (lv_at hl 1 rfl) ?_
        exact r_i hx hb hr hlk (congrArg (fun z => Value.int (J z)) (show (lo (gd (V 0 0) (fun x o => x + pI (0 < V 5 o))) 0 i : Int) = rkO V from by rw [show i = 40 by omega]; exact lo_gd hn.1 hn.2)) dX5_rentsKnown_46
      · refine lv_aload_n hx hb dX5_rentsKnown_13 rfl (lv_at hl 2 rfl) ?_
        refine j_get (ci := 5) (v := .ref hs) hx hb hts inX5_ hown hK hT2 rfl 0 (by decide) lk0 (fun _ h9 => h9) rfl dX5_rentsKnown_14 ?_
        refine lv_iload_n hx hb dX5_rentsKnown_17 rfl (lv_at hl 0 rfl) ?_
        refine j_aald (C := RX2) hx hb hK hT3 rfl (by omega) (by omega) (by decide) dX5_rentsKnown_18 ?_
        by_cases sp18 : 0 ≤ i ∧ i < V 0 0
        · refine j_qs (b := ha i) (qN_s sp18) ?_
          have hce_1 : At G s.heap (ha i) (eHo V (ea) i) := hT4 i sp18.1 sp18.2
          have hih_2 := hT1.h sp18.1 sp18.2
          refine lv_astore_n (lv' := [(3, .ref (ha i)), (2, .int (J i)), (1, .int (J (lo (gd (V 0 0) (fun x o => x + pI (0 < V 5 o))) 0 i))), (0, .ref tw)]) hx hb dX5_rentsKnown_19 rfl hl (by decide) rfl (fun ls hl => ?_)
          refine lv_iload_n hx hb dX5_rentsKnown_20 rfl (lv_at hl 2 rfl) ?_
          refine lv_aload_n hx hb dX5_rentsKnown_21 rfl (lv_at hl 0 rfl) ?_
          refine lv_ifnull hx hb dX5_rentsKnown_22 ?_
          refine lv_aload_n hx hb dX5_rentsKnown_25 rfl (lv_at hl 0 rfl) ?_
          refine j_get (ci := 2) (v := .int (J (V 5 i))) hx hb hts inX2_ hown hK hce_1 rfl 6 (by decide) lk1 (fun _ h9 => h9) rfl dX5_rentsKnown_26 ?_
          refine j_le0 (tgt := 36) hx hb (by omega) (by omega) dX5_rentsKnown_29 (by decide) (fun c29 => ?_) (fun c29 => ?_)
          · refine j_const hx hb dX5_rentsKnown_36 ?_
            refine j_add hx hb dX5_rentsKnown_37 ?_
            refine lv_istore_n (lv' := [(1, .int (J ((lo (gd (V 0 0) (fun x o => x + pI (0 < V 5 o))) 0 i) + 0))), (3, .ref (ha i)), (2, .int (J i)), (0, .ref tw)]) hx hb dX5_rentsKnown_38 rfl hl (by decide) rfl (fun ls hl => ?_)
            refine lv_iinc (v := J (i + 1)) (lv' := [(2, .int (J (i + 1))), (1, .int (J ((lo (gd (V 0 0) (fun x o => x + pI (0 < V 5 o))) 0 i) + 0))), (3, .ref (ha i)), (0, .ref tw)]) hx hb dX5_rentsKnown_39 hl (k := 2) rfl (J_add _ _) (by decide) rfl (fun ls hl => ?_)
            refine lv_goto (tgt := 4) hx hb dX5_rentsKnown_42 (by decide) ?_
            exact ih4 (i + 1) (by omega) (by omega) _ (lv_sub hl [0, 1, 3] (by rw [show (lo (gd (V 0 0) (fun x o => x + pI (0 < V 5 o))) 0 (i + 1) : Int) = (lo (gd (V 0 0) (fun x o => x + pI (0 < V 5 o))) 0 i) + 0 from (by rw [lo_s _ _ (by omega)]; simp only [gd, pI] <;> (repeat' split) <;> first | rfl | omega | (exfalso; omega) | (exfalso; contradiction) | (exfalso; simp_all))]; try rfl))
          · refine j_const hx hb dX5_rentsKnown_32 ?_
            refine lv_goto (tgt := 37) hx hb dX5_rentsKnown_33 (by decide) ?_
            refine j_add hx hb dX5_rentsKnown_37 ?_
            refine lv_istore_n (lv' := [(1, .int (J ((lo (gd (V 0 0) (fun x o => x + pI (0 < V 5 o))) 0 i) + 1))), (3, .ref (ha i)), (2, .int (J i)), (0, .ref tw)]) hx hb dX5_rentsKnown_38 rfl hl (by decide) rfl (fun ls hl => ?_)
            refine lv_iinc (v := J (i + 1)) (lv' := [(2, .int (J (i + 1))), (1, .int (J ((lo (gd (V 0 0) (fun x o => x + pI (0 < V 5 o))) 0 i) + 1))), (3, .ref (ha i)), (0, .ref tw)]) hx hb dX5_rentsKnown_39 hl (k := 2) rfl (J_add _ _) (by decide) rfl (fun ls hl => ?_)
            refine lv_goto (tgt := 4) hx hb dX5_rentsKnown_42 (by decide) ?_
            exact ih4 (i + 1) (by omega) (by omega) _ (lv_sub hl [0, 1, 3] (by rw [show (lo (gd (V 0 0) (fun x o => x + pI (0 < V 5 o))) 0 (i + 1) : Int) = (lo (gd (V 0 0) (fun x o => x + pI (0 < V 5 o))) 0 i) + 1 from (by rw [lo_s _ _ (by omega)]; simp only [gd, pI] <;> (repeat' split) <;> first | rfl | omega | (exfalso; omega) | (exfalso; contradiction) | (exfalso; simp_all))]; try rfl))
        · refine j_qn (qN_n sp18) ?_
          refine lv_astore_nN (lv' := [(3, .null), (2, .int (J i)), (1, .int (J (lo (gd (V 0 0) (fun x o => x + pI (0 < V 5 o))) 0 i))), (0, .ref tw)]) hx hb dX5_rentsKnown_19 rfl hl (by decide) rfl (fun ls hl => ?_)
          refine lv_iload_n hx hb dX5_rentsKnown_20 rfl (lv_at hl 2 rfl) ?_
          refine lv_aload_nN hx hb dX5_rentsKnown_21 rfl (lv_at hl 0 rfl) ?_
          refine lv_ifnullN (tgt := 36) hx hb dX5_rentsKnown_22 (by decide) ?_
          refine j_const hx hb dX5_rentsKnown_36 ?_
          refine j_add hx hb dX5_rentsKnown_37 ?_
          refine lv_istore_n (lv' := [(1, .int (J ((lo (gd (V 0 0) (fun x o => x + pI (0 < V 5 o))) 0 i) + 0))), (3, .null), (2, .int (J i)), (0, .ref tw)]) hx hb dX5_rentsKnown_38 rfl hl (by decide) rfl (fun ls hl => ?_)
          refine lv_iinc (v := J (i + 1)) (lv' := [(2, .int (J (i + 1))), (1, .int (J ((lo (gd (V 0 0) (fun x o => x + pI (0 < V 5 o))) 0 i) + 0))), (3, .null), (0, .ref tw)]) hx hb dX5_rentsKnown_39 hl (k := 2) rfl (J_add _ _) (by decide) rfl (fun ls hl => ?_)
          refine lv_goto (tgt := 4) hx hb dX5_rentsKnown_42 (by decide) ?_
          exact ih4 (i + 1) (by omega) (by omega) _ (lv_sub hl [0, 1, 3] (by rw [show (lo (gd (V 0 0) (fun x o => x + pI (0 < V 5 o))) 0 (i + 1) : Int) = (lo (gd (V 0 0) (fun x o => x + pI (0 < V 5 o))) 0 i) + 0 from (by rw [lo_s _ _ (by omega)]; simp only [gd, pI] <;> (repeat' split) <;> first | rfl | omega | (exfalso; omega) | (exfalso; contradiction) | (exfalso; simp_all))]; try rfl))
  exact lp4 41 0 (by omega) (by omega) _ (lv_sub hl [0, 1, 2] (by rw [show (lo (gd (V 0 0) (fun x o => x + pI (0 < V 5 o))) 0 0 : Int) = 0 from (by rfl)]; try rfl))

abbrev rmX5_eventsTold : Room := { frames := 0, cells := 0, slots := 0, locals := 0 }
set_option maxHeartbeats 4000000 in
set_option maxRecDepth 100000 in
theorem c_X5_eventsTold (l : Launch) (G : GG) (tw hs : Nat) (ha ea : Int → Nat) (V : St) (eb : Int → Nat) (L : Int → List EvT) (h_L : ∀ h, 0 ≤ h → h < V 0 0 → ((L h).length : Int) = V 6 h) : MP l G yX5_eventsTold wsX5_eventsTold rmX5_eventsTold [.ref tw] (fun H => Tn G H tw hs ha ea V ∧ ∀ h, 0 ≤ h → h < V 0 0 → Evs G H (ea h) (eb h) (L h)) (.int (J (evO V)) : Value) := by
  refine MP.of (cc := cX5_eventsTold) (maxL := 4) (ret := (some .int)) (by decide) rfl (Nat.le_of_ble_eq_true rfl) ?_
  intro p e s m below meth c hx hb hr hml hown hts hlk hK hP ls hl
  have hown : s.vm.findClass RX5 = some m.cls := hown
  have hl : lv_has ls 4 [(0, .ref tw)] := hl
  have inX1_ : ∀ w ∈ u_ws RX1 TX1 2, w ∈ wsX5_eventsTold := by decide +kernel
  have inX2_ : ∀ w ∈ u_ws RX2 TX2 7, w ∈ wsX5_eventsTold := by decide +kernel
  have inX5_ : ∀ w ∈ u_ws RX5 TX5 2, w ∈ wsX5_eventsTold := by decide +kernel
  have lk0 := hts (.fieldLink RX5 11 "RateBook$Town" "houses" "[LRateBook$House;") (by decide +kernel)
  have lk1 := hts (.fieldLink RX5 31 "RateBook$House" "events" "LRateBook$Events;") (by decide +kernel)
  obtain ⟨hP, hEs⟩ := hP
  have hT : Tn G s.heap tw hs ha ea V := hP
  obtain ⟨hT1, hT2, hT3, hT4⟩ := id hT
  have hn := hT1.n
  refine j_const hx hb dX5_eventsTold_0 ?_
  refine lv_istore_n (lv' := [(1, .int (J 0)), (0, .ref tw)]) hx hb dX5_eventsTold_1 rfl hl (by decide) rfl (fun ls hl => ?_)
  refine j_const hx hb dX5_eventsTold_2 ?_
  refine lv_istore_n (lv' := [(2, .int (J 0)), (1, .int (J 0)), (0, .ref tw)]) hx hb dX5_eventsTold_3 rfl hl (by decide) rfl (fun ls hl => ?_)
  have lp4 : ∀ (n : Nat) (i : Int) (i0 : 0 ≤ i ∧ i ≤ 40) (hm : 40 - i < (n : Int)) (ls : Array Slot) (hl : lv_has ls 4 [(2, .int (J i)), (1, .int (J (lo (gd (V 0 0) (fun x o => x + V 6 o)) 0 i))), (0, .ref tw)]), W p l e (headSpec wsX5_eventsTold rmX5_eventsTold).room s m ([.ref tw] : List Value).toArray below meth c s.heap [] 0 0 (MQ below (k2_QcV (.int (J (evO V)) : Value)) ([.ref tw] : List Value).toArray s 0 0 (fun _ => False)) (F0 m 4 ls []) := by
    intro n
    induction n with
    | zero =>
      intro i i0 hm ls hl
      exact absurd hm (by omega)
    | succ n ih4 =>
      intro i i0 hm ls hl
      refine lv_iload_n hx hb dX5_eventsTold_4 rfl (lv_at hl 0 rfl) ?_
      refine lv_aload_n hx hb dX5_eventsTold_5 rfl (lv_at hl 2 rfl) ?_
      refine j_get (ci := 5) (v := .ref hs) hx hb hts inX5_ hown hK hT2 rfl 0 (by decide) lk0 (fun _ h9 => h9) rfl dX5_eventsTold_6 ?_
      refine j_alQ (C := RX2) hx hb hK hT3 rfl dX5_eventsTold_9 ?_
      refine j_re (y := 40) rfl ?_
      refine j_cge (tgt := 44) hx hb (by omega) (by omega) (by decide) (by decide) dX5_eventsTold_10 (by decide) (fun c10 => ?_) (fun c10 => ?_)
      · refine lv_iload_n hx hb dX5_eventsTold_44 rfl (lv_at hl 1 rfl) ?_
        exact r_i hx hb hr hlk (congrArg (fun z => Value.int (J z)) (show (lo (gd (V 0 0) (fun x o => x + V 6 o)) 0 i : Int) = evO V from by rw [show i = 40 by omega]; exact lo_gd hn.1 hn.2)) dX5_eventsTold_45
      · refine lv_aload_n hx hb dX5_eventsTold_13 rfl (lv_at hl 2 rfl) ?_
        refine j_get (ci := 5) (v := .ref hs) hx hb hts inX5_ hown hK hT2 rfl 0 (by decide) lk0 (fun _ h9 => h9) rfl dX5_eventsTold_14 ?_
        refine lv_iload_n hx hb dX5_eventsTold_17 rfl (lv_at hl 0 rfl) ?_
        refine j_aald (C := RX2) hx hb hK hT3 rfl (by omega) (by omega) (by decide) dX5_eventsTold_18 ?_
        by_cases sp18 : 0 ≤ i ∧ i < V 0 0
        · refine j_qs (b := ha i) (qN_s sp18) ?_
          have hce_1 : At G s.heap (ha i) (eHo V (ea) i) := hT4 i sp18.1 sp18.2
          have hih_2 := hT1.h sp18.1 sp18.2
          refine lv_astore_n (lv' := [(3, .ref (ha i)), (2, .int (J i)), (1, .int (J (lo (gd (V 0 0) (fun x o => x + V 6 o)) 0 i))), (0, .ref tw)]) hx hb dX5_eventsTold_19 rfl hl (by decide) rfl (fun ls hl => ?_)
          refine lv_iload_n hx hb dX5_eventsTold_20 rfl (lv_at hl 2 rfl) ?_
          refine lv_aload_n hx hb dX5_eventsTold_21 rfl (lv_at hl 0 rfl) ?_
          refine lv_ifnonnull (tgt := 29) hx hb dX5_eventsTold_22 (by decide) ?_
          refine lv_aload_n hx hb dX5_eventsTold_29 rfl (lv_at hl 0 rfl) ?_
          refine j_get (ci := 2) (v := .ref (ea i)) hx hb hts inX2_ hown hK hce_1 rfl 5 (by decide) lk1 (fun _ h9 => h9) rfl dX5_eventsTold_30 ?_
          have ce_3 : At G s.heap (ea i) (eO 1 [.ref (eb i), .int (J (((L i).length : Int)))]) := (hEs i sp18.1 sp18.2).1
          refine j_getN (ci := 1) (v := .int (J (((L i).length : Int)))) hx hb hts inX1_ hown hK ce_3 rfl 1 (by decide) hK.2.1.2.2.2.1 (fun _ h9 => h9) rfl dX5_eventsTold_33 ?_
          refine j_re (y := V 6 i) (h_L i sp18.1 sp18.2) ?_
          refine j_add hx hb dX5_eventsTold_36 ?_
          refine lv_istore_n (lv' := [(1, .int (J ((lo (gd (V 0 0) (fun x o => x + V 6 o)) 0 i) + (V 6 i)))), (3, .ref (ha i)), (2, .int (J i)), (0, .ref tw)]) hx hb dX5_eventsTold_37 rfl hl (by decide) rfl (fun ls hl => ?_)
          refine lv_iinc (v := J (i + 1)) (lv' := [(2, .int (J (i + 1))), (1, .int (J ((lo (gd (V 0 0) (fun x o => x + V 6 o)) 0 i) + (V 6 i)))), (3, .ref (ha i)), (0, .ref tw)]) hx hb dX5_eventsTold_38 hl (k := 2) rfl (J_add _ _) (by decide) rfl (fun ls hl => ?_)
          refine lv_goto (tgt := 4) hx hb dX5_eventsTold_41 (by decide) ?_
          exact ih4 (i + 1) (by omega) (by omega) _ (lv_sub hl [0, 1, 3] (by rw [show (lo (gd (V 0 0) (fun x o => x + V 6 o)) 0 (i + 1) : Int) = (lo (gd (V 0 0) (fun x o => x + V 6 o)) 0 i) + (V 6 i) from (by rw [lo_s _ _ (by omega)]; simp only [gd, pI] <;> (repeat' split) <;> first | rfl | omega | (exfalso; omega) | (exfalso; contradiction) | (exfalso; simp_all))]; try rfl))
        · refine j_qn (qN_n sp18) ?_
          refine lv_astore_nN (lv' := [(3, .null), (2, .int (J i)), (1, .int (J (lo (gd (V 0 0) (fun x o => x + V 6 o)) 0 i))), (0, .ref tw)]) hx hb dX5_eventsTold_19 rfl hl (by decide) rfl (fun ls hl => ?_)
          refine lv_iload_n hx hb dX5_eventsTold_20 rfl (lv_at hl 2 rfl) ?_
          refine lv_aload_nN hx hb dX5_eventsTold_21 rfl (lv_at hl 0 rfl) ?_
          refine lv_ifnonnullN hx hb dX5_eventsTold_22 ?_
          refine j_const hx hb dX5_eventsTold_25 ?_
          refine lv_goto (tgt := 36) hx hb dX5_eventsTold_26 (by decide) ?_
          refine j_add hx hb dX5_eventsTold_36 ?_
          refine lv_istore_n (lv' := [(1, .int (J ((lo (gd (V 0 0) (fun x o => x + V 6 o)) 0 i) + 0))), (3, .null), (2, .int (J i)), (0, .ref tw)]) hx hb dX5_eventsTold_37 rfl hl (by decide) rfl (fun ls hl => ?_)
          refine lv_iinc (v := J (i + 1)) (lv' := [(2, .int (J (i + 1))), (1, .int (J ((lo (gd (V 0 0) (fun x o => x + V 6 o)) 0 i) + 0))), (3, .null), (0, .ref tw)]) hx hb dX5_eventsTold_38 hl (k := 2) rfl (J_add _ _) (by decide) rfl (fun ls hl => ?_)
          refine lv_goto (tgt := 4) hx hb dX5_eventsTold_41 (by decide) ?_
          exact ih4 (i + 1) (by omega) (by omega) _ (lv_sub hl [0, 1, 3] (by rw [show (lo (gd (V 0 0) (fun x o => x + V 6 o)) 0 (i + 1) : Int) = (lo (gd (V 0 0) (fun x o => x + V 6 o)) 0 i) + 0 from (by rw [lo_s _ _ (by omega)]; simp only [gd, pI] <;> (repeat' split) <;> first | rfl | omega | (exfalso; omega) | (exfalso; contradiction) | (exfalso; simp_all))]; try rfl))
  exact lp4 41 0 (by omega) (by omega) _ (lv_sub hl [0, 1, 2] (by rw [show (lo (gd (V 0 0) (fun x o => x + V 6 o)) 0 0 : Int) = 0 from (by rfl)]; try rfl))

abbrev rmX3_at : Room := { frames := 0, cells := 0, slots := 0, locals := 0 }
set_option maxHeartbeats 4000000 in
set_option maxRecDepth 100000 in
theorem c_X3_at (l : Launch) (G : GG) (li lr : Nat) (rl ru un : Int → Nat) (uc ud : Int → Int) (V : St) (z : Int) (g_z : -2147483648 ≤ z ∧ z < 2147483648) : MP l G yX3_at wsX3_at rmX3_at [.ref li, .int (J z)] (fun H => Li G H li lr rl ru un uc ud V) (va_rf (qN (V 0 1) rl z) : Value) := by
  refine MP.of (cc := cX3_at) (maxL := 2) (ret := (some (.object "RateBook$RateList"))) (by decide) rfl (Nat.le_of_ble_eq_true rfl) ?_
  intro p e s m below meth c hx hb hr hml hown hts hlk hK hP ls hl
  have hown : s.vm.findClass RX3 = some m.cls := hown
  have hl : lv_has ls 2 [(0, .ref li), (1, .int (J z))] := hl
  have inX3_ : ∀ w ∈ u_ws RX3 TX3 2, w ∈ wsX3_at := by decide +kernel
  have lk0 := hts (.fieldLink RX3 11 "RateBook$Lists" "byDay" "[LRateBook$RateList;") (by decide +kernel)
  have hL : Li G s.heap li lr rl ru un uc ud V := hP
  obtain ⟨hL1, hL2, hL3, hL4, hL5, hL6⟩ := id hL
  have hnl := hL1.l
  refine lv_iload_n hx hb dX3_at_0 rfl (lv_at hl 1 rfl) ?_
  refine j_lt0 (tgt := 22) hx hb (by omega) (by omega) dX3_at_1 (by decide) (fun c1 => ?_) (fun c1 => ?_)
  · refine lv_null hx hb dX3_at_22 ?_
    exact r_a hx hb hr hlk (o := none) rfl (congrArg va_rf (show (none : Option Nat) = qN (V 0 1) rl z from (qN_n (by omega)).symm)) dX3_at_23
  · refine lv_iload_n hx hb dX3_at_4 rfl (lv_at hl 1 rfl) ?_
    refine lv_aload_n hx hb dX3_at_5 rfl (lv_at hl 0 rfl) ?_
    refine j_get (ci := 3) (v := .ref lr) hx hb hts inX3_ hown hK hL2 rfl 0 (by decide) lk0 (fun _ h9 => h9) rfl dX3_at_6 ?_
    refine j_alQ (C := RX4) hx hb hK hL3 rfl dX3_at_9 ?_
    refine j_re (y := 10) rfl ?_
    refine j_cge (tgt := 22) hx hb (by omega) (by omega) (by decide) (by decide) dX3_at_10 (by decide) (fun c10 => ?_) (fun c10 => ?_)
    · refine lv_null hx hb dX3_at_22 ?_
      exact r_a hx hb hr hlk (o := none) rfl (congrArg va_rf (show (none : Option Nat) = qN (V 0 1) rl z from (qN_n (by omega)).symm)) dX3_at_23
    · refine lv_aload_n hx hb dX3_at_13 rfl (lv_at hl 0 rfl) ?_
      refine j_get (ci := 3) (v := .ref lr) hx hb hts inX3_ hown hK hL2 rfl 0 (by decide) lk0 (fun _ h9 => h9) rfl dX3_at_14 ?_
      refine lv_iload_n hx hb dX3_at_17 rfl (lv_at hl 1 rfl) ?_
      refine j_aald (C := RX4) hx hb hK hL3 rfl (by omega) (by omega) (by decide) dX3_at_18 ?_
      refine lv_goto (tgt := 23) hx hb dX3_at_19 (by decide) ?_
      exact r_a hx hb hr hlk (o := (qN (V 0 1) rl) z) rfl (congrArg va_rf (show ((qN (V 0 1) rl) z : Option Nat) = qN (V 0 1) rl z from rfl)) dX3_at_23

abbrev rmX3_isFull : Room := { frames := 0, cells := 0, slots := 0, locals := 0 }
set_option maxHeartbeats 4000000 in
set_option maxRecDepth 100000 in
theorem c_X3_isFull (l : Launch) (G : GG) (li lr : Nat) (rl ru un : Int → Nat) (uc ud : Int → Int) (V : St) : MP l G yX3_isFull wsX3_isFull rmX3_isFull [.ref li] (fun H => Li G H li lr rl ru un uc ud V) (.int (J (pI (10 ≤ V 0 1))) : Value) := by
  refine MP.of (cc := cX3_isFull) (maxL := 1) (ret := (some .boolean)) (by decide) rfl (Nat.le_of_ble_eq_true rfl) ?_
  intro p e s m below meth c hx hb hr hml hown hts hlk hK hP ls hl
  have hown : s.vm.findClass RX3 = some m.cls := hown
  have hl : lv_has ls 1 [(0, .ref li)] := hl
  have inX3_ : ∀ w ∈ u_ws RX3 TX3 2, w ∈ wsX3_isFull := by decide +kernel
  have lk0 := hts (.fieldLink RX3 17 "RateBook$Lists" "made" "I") (by decide +kernel)
  have lk1 := hts (.fieldLink RX3 11 "RateBook$Lists" "byDay" "[LRateBook$RateList;") (by decide +kernel)
  have hL : Li G s.heap li lr rl ru un uc ud V := hP
  obtain ⟨hL1, hL2, hL3, hL4, hL5, hL6⟩ := id hL
  have hnl := hL1.l
  refine lv_aload_n hx hb dX3_isFull_0 rfl (lv_at hl 0 rfl) ?_
  refine j_get (ci := 3) (v := .int (J (V 0 1))) hx hb hts inX3_ hown hK hL2 rfl 1 (by decide) lk0 (fun _ h9 => h9) rfl dX3_isFull_1 ?_
  refine lv_aload_n hx hb dX3_isFull_4 rfl (lv_at hl 0 rfl) ?_
  refine j_get (ci := 3) (v := .ref lr) hx hb hts inX3_ hown hK hL2 rfl 0 (by decide) lk1 (fun _ h9 => h9) rfl dX3_isFull_5 ?_
  refine j_alQ (C := RX4) hx hb hK hL3 rfl dX3_isFull_8 ?_
  refine j_re (y := 10) rfl ?_
  refine j_clt (tgt := 16) hx hb (by omega) (by omega) (by decide) (by decide) dX3_isFull_9 (by decide) (fun c9 => ?_) (fun c9 => ?_)
  · refine j_const hx hb dX3_isFull_16 ?_
    exact r_z hx hb hr hlk rfl (congrArg (fun z => Value.int (J z)) (show (0 : Int) = pI (10 ≤ V 0 1) from (pI_f (by omega)).symm)) dX3_isFull_17
  · refine j_const hx hb dX3_isFull_12 ?_
    refine lv_goto (tgt := 17) hx hb dX3_isFull_13 (by decide) ?_
    exact r_z hx hb hr hlk rfl (congrArg (fun z => Value.int (J z)) (show (1 : Int) = pI (10 ≤ V 0 1) from (pI_t (by omega)).symm)) dX3_isFull_17

abbrev rmX3_reach : Room := { frames := 1, cells := 0, slots := 0, locals := 21 }
set_option maxHeartbeats 4000000 in
set_option maxRecDepth 100000 in
theorem c_X3_reach (l : Launch) (G : GG) (li lr : Nat) (rl ru un : Int → Nat) (uc ud : Int → Int) (V : St) (d : Int) (g_d : -2147483648 ≤ d ∧ d < 2147483648) : MP l G yX3_reach wsX3_reach rmX3_reach [.ref li, .int (J d)] (fun H => Li G H li lr rl ru un uc ud V) (.int (J (pI (0 < V 0 1 ∧ d ≤ V 10 (V 0 1 - 1)))) : Value) := by
  refine MP.of (cc := cX3_reach) (maxL := 3) (ret := (some .boolean)) (by decide) rfl (Nat.le_of_ble_eq_true rfl) ?_
  intro p e s m below meth c hx hb hr hml hown hts hlk hK hP ls hl
  have hown : s.vm.findClass RX3 = some m.cls := hown
  have hl : lv_has ls 3 [(0, .ref li), (1, .int (J d))] := hl
  have inX3_ : ∀ w ∈ u_ws RX3 TX3 2, w ∈ wsX3_reach := by decide +kernel
  have inX4_ : ∀ w ∈ u_ws RX4 TX4 2, w ∈ wsX3_reach := by decide +kernel
  have lk0 := hts (.fieldLink RX3 17 "RateBook$Lists" "made" "I") (by decide +kernel)
  have lk1 := hts (.fieldLink RX3 25 "RateBook$RateList" "day" "I") (by decide +kernel)
  have hL : Li G s.heap li lr rl ru un uc ud V := hP
  obtain ⟨hL1, hL2, hL3, hL4, hL5, hL6⟩ := id hL
  have hnl := hL1.l
  refine lv_aload_n hx hb dX3_reach_0 rfl (lv_at hl 0 rfl) ?_
  refine lv_aload_n hx hb dX3_reach_1 rfl (lv_at hl 0 rfl) ?_
  refine j_get (ci := 3) (v := .int (J (V 0 1))) hx hb hts inX3_ hown hK hL2 rfl 1 (by decide) lk0 (fun _ h9 => h9) rfl dX3_reach_2 ?_
  refine j_const hx hb dX3_reach_5 ?_
  refine j_sub hx hb dX3_reach_6 ?_
  refine k_V (ci := 3) (b := li) (As := [.int (J ((V 0 1) - 1))]) (rest := []) (v := va_rf (qN (V 0 1) rl ((V 0 1) - 1))) hx hb hml hown hts hK hl.1 (c_X3_at l G li lr rl ru un uc ud V ((V 0 1) - 1) ((by omega))) (cwV 1 hts gX3_reach_X3_at rfl rfl rfl (by decide +kernel) ⟨Nat.le_of_ble_eq_true rfl, Nat.le_of_ble_eq_true rfl⟩) hL2 rfl hL rfl rfl (Nat.le_of_ble_eq_true rfl) dX3_reach_7 ⟨Nat.zero_le _, Nat.zero_le _⟩ ?_
  by_cases sp7 : 0 ≤ V 0 1 - 1 ∧ V 0 1 - 1 < V 0 1
  · refine j_qs (b := rl (V 0 1 - 1)) (qN_s sp7) ?_
    have hce_1 := hL4 (V 0 1 - 1) sp7.1 sp7.2
    have hdr := hL1.d sp7.1 sp7.2
    refine lv_astore_n (lv' := [(2, .ref (rl (V 0 1 - 1))), (0, .ref li), (1, .int (J d))]) hx hb dX3_reach_10 rfl hl (by decide) rfl (fun ls hl => ?_)
    refine lv_aload_n hx hb dX3_reach_11 rfl (lv_at hl 0 rfl) ?_
    refine lv_ifnull hx hb dX3_reach_12 ?_
    refine lv_aload_n hx hb dX3_reach_15 rfl (lv_at hl 0 rfl) ?_
    refine j_get (ci := 4) (v := .int (J (V 10 (V 0 1 - 1)))) hx hb hts inX4_ hown hK hce_1 rfl 0 (by decide) lk1 (fun _ h9 => h9) rfl dX3_reach_16 ?_
    refine lv_iload_n hx hb dX3_reach_19 rfl (lv_at hl 2 rfl) ?_
    refine j_clt (tgt := 27) hx hb (by omega) (by omega) (by omega) (by omega) dX3_reach_20 (by decide) (fun c20 => ?_) (fun c20 => ?_)
    · refine j_const hx hb dX3_reach_27 ?_
      exact r_z hx hb hr hlk rfl (congrArg (fun z => Value.int (J z)) (show (0 : Int) = pI (0 < V 0 1 ∧ d ≤ V 10 (V 0 1 - 1)) from (pI_f (by omega)).symm)) dX3_reach_28
    · refine j_const hx hb dX3_reach_23 ?_
      refine lv_goto (tgt := 28) hx hb dX3_reach_24 (by decide) ?_
      exact r_z hx hb hr hlk rfl (congrArg (fun z => Value.int (J z)) (show (1 : Int) = pI (0 < V 0 1 ∧ d ≤ V 10 (V 0 1 - 1)) from (pI_t (by omega)).symm)) dX3_reach_28
  · refine j_qn (qN_n sp7) ?_
    refine lv_astore_nN (lv' := [(2, .null), (0, .ref li), (1, .int (J d))]) hx hb dX3_reach_10 rfl hl (by decide) rfl (fun ls hl => ?_)
    refine lv_aload_nN hx hb dX3_reach_11 rfl (lv_at hl 0 rfl) ?_
    refine lv_ifnullN (tgt := 27) hx hb dX3_reach_12 (by decide) ?_
    refine j_const hx hb dX3_reach_27 ?_
    exact r_z hx hb hr hlk rfl (congrArg (fun z => Value.int (J z)) (show (0 : Int) = pI (0 < V 0 1 ∧ d ≤ V 10 (V 0 1 - 1)) from (pI_f (by omega)).symm)) dX3_reach_28

abbrev rmX3_standingOn : Room := { frames := 0, cells := 0, slots := 0, locals := 0 }
set_option maxHeartbeats 4000000 in
set_option maxRecDepth 100000 in
theorem c_X3_standingOn (l : Launch) (G : GG) (li lr : Nat) (rl ru un : Int → Nat) (uc ud : Int → Int) (V : St) (d : Int) (g_d : -2147483648 ≤ d ∧ d < 2147483648) : MP l G yX3_standingOn wsX3_standingOn rmX3_standingOn [.ref li, .int (J d)] (fun H => Li G H li lr rl ru un uc ud V) (.int (J (stO V d)) : Value) := by
  refine MP.of (cc := cX3_standingOn) (maxL := 5) (ret := (some .int)) (by decide) rfl (Nat.le_of_ble_eq_true rfl) ?_
  intro p e s m below meth c hx hb hr hml hown hts hlk hK hP ls hl
  have hown : s.vm.findClass RX3 = some m.cls := hown
  have hl : lv_has ls 5 [(0, .ref li), (1, .int (J d))] := hl
  have inX3_ : ∀ w ∈ u_ws RX3 TX3 2, w ∈ wsX3_standingOn := by decide +kernel
  have inX4_ : ∀ w ∈ u_ws RX4 TX4 2, w ∈ wsX3_standingOn := by decide +kernel
  have lk0 := hts (.fieldLink RX3 11 "RateBook$Lists" "byDay" "[LRateBook$RateList;") (by decide +kernel)
  have lk1 := hts (.fieldLink RX3 25 "RateBook$RateList" "day" "I") (by decide +kernel)
  have hL : Li G s.heap li lr rl ru un uc ud V := hP
  obtain ⟨hL1, hL2, hL3, hL4, hL5, hL6⟩ := id hL
  have hnl := hL1.l
  refine j_bi hx hb dX3_standingOn_0 (by decide +kernel) ?_
  refine lv_istore_n (lv' := [(2, .int (J ((-4)))), (0, .ref li), (1, .int (J d))]) hx hb dX3_standingOn_2 rfl hl (by decide) rfl (fun ls hl => ?_)
  refine j_const hx hb dX3_standingOn_3 ?_
  refine lv_istore_n (lv' := [(3, .int (J 0)), (2, .int (J ((-4)))), (0, .ref li), (1, .int (J d))]) hx hb dX3_standingOn_4 rfl hl (by decide) rfl (fun ls hl => ?_)
  have lp5 : ∀ (n : Nat) (i : Int) (i0 : 0 ≤ i ∧ i ≤ 10) (hm : 10 - i < (n : Int)) (ls : Array Slot) (hl : lv_has ls 5 [(3, .int (J i)), (2, .int (J (lo (gd (V 0 1) (fun x o => if V 10 o ≤ d then o else x)) (-4) i))), (0, .ref li), (1, .int (J d))]), W p l e (headSpec wsX3_standingOn rmX3_standingOn).room s m ([.ref li, .int (J d)] : List Value).toArray below meth c s.heap [] 0 0 (MQ below (k2_QcV (.int (J (stO V d)) : Value)) ([.ref li, .int (J d)] : List Value).toArray s 0 0 (fun _ => False)) (F0 m 5 ls []) := by
    intro n
    induction n with
    | zero =>
      intro i i0 hm ls hl
      exact absurd hm (by omega)
    | succ n ih5 =>
      intro i i0 hm ls hl
      refine lv_iload_n hx hb dX3_standingOn_5 rfl (lv_at hl 0 rfl) ?_
      refine lv_aload_n hx hb dX3_standingOn_6 rfl (lv_at hl 2 rfl) ?_
      refine j_get (ci := 3) (v := .ref lr) hx hb hts inX3_ hown hK hL2 rfl 0 (by decide) lk0 (fun _ h9 => h9) rfl dX3_standingOn_7 ?_
      refine j_alQ (C := RX4) hx hb hK hL3 rfl dX3_standingOn_10 ?_
      refine j_re (y := 10) rfl ?_
      refine j_cge (tgt := 44) hx hb (by omega) (by omega) (by decide) (by decide) dX3_standingOn_11 (by decide) (fun c11 => ?_) (fun c11 => ?_)
      · refine lv_iload_n hx hb dX3_standingOn_44 rfl (lv_at hl 1 rfl) ?_
        exact r_i hx hb hr hlk (congrArg (fun z => Value.int (J z)) (show (lo (gd (V 0 1) (fun x o => if V 10 o ≤ d then o else x)) (-4) i : Int) = stO V d from by rw [show i = 10 by omega]; exact lo_gd hnl.1 hnl.2)) dX3_standingOn_45
      · refine lv_aload_n hx hb dX3_standingOn_14 rfl (lv_at hl 2 rfl) ?_
        refine j_get (ci := 3) (v := .ref lr) hx hb hts inX3_ hown hK hL2 rfl 0 (by decide) lk0 (fun _ h9 => h9) rfl dX3_standingOn_15 ?_
        refine lv_iload_n hx hb dX3_standingOn_18 rfl (lv_at hl 0 rfl) ?_
        refine j_aald (C := RX4) hx hb hK hL3 rfl (by omega) (by omega) (by decide) dX3_standingOn_19 ?_
        by_cases sp19 : 0 ≤ i ∧ i < V 0 1
        · refine j_qs (b := rl i) (qN_s sp19) ?_
          have hce_1 := hL4 i sp19.1 sp19.2
          have hdr := hL1.d sp19.1 sp19.2
          refine lv_astore (lv' := [(4, .ref (rl i)), (3, .int (J i)), (2, .int (J (lo (gd (V 0 1) (fun x o => if V 10 o ≤ d then o else x)) (-4) i))), (0, .ref li), (1, .int (J d))]) hx hb dX3_standingOn_20 hl (by decide) rfl (fun ls hl => ?_)
          refine lv_aload hx hb dX3_standingOn_22 (lv_at hl 0 rfl) ?_
          refine lv_ifnull hx hb dX3_standingOn_24 ?_
          refine lv_aload hx hb dX3_standingOn_27 (lv_at hl 0 rfl) ?_
          refine j_get (ci := 4) (v := .int (J (V 10 i))) hx hb hts inX4_ hown hK hce_1 rfl 0 (by decide) lk1 (fun _ h9 => h9) rfl dX3_standingOn_29 ?_
          refine lv_iload_n hx hb dX3_standingOn_32 rfl (lv_at hl 4 rfl) ?_
          refine j_cgt (tgt := 38) hx hb (by omega) (by omega) (by omega) (by omega) dX3_standingOn_33 (by decide) (fun c33 => ?_) (fun c33 => ?_)
          · refine lv_iinc (v := J (i + 1)) (lv' := [(3, .int (J (i + 1))), (4, .ref (rl i)), (2, .int (J (lo (gd (V 0 1) (fun x o => if V 10 o ≤ d then o else x)) (-4) i))), (0, .ref li), (1, .int (J d))]) hx hb dX3_standingOn_38 hl (k := 1) rfl (J_add _ _) (by decide) rfl (fun ls hl => ?_)
            refine lv_goto (tgt := 5) hx hb dX3_standingOn_41 (by decide) ?_
            exact ih5 (i + 1) (by omega) (by omega) _ (lv_sub hl [0, 2, 3, 4] (by rw [show (lo (gd (V 0 1) (fun x o => if V 10 o ≤ d then o else x)) (-4) (i + 1) : Int) = lo (gd (V 0 1) (fun x o => if V 10 o ≤ d then o else x)) (-4) i from (by rw [lo_s _ _ (by omega)]; simp only [gd] <;> (repeat' split) <;> first | rfl | omega | (exfalso; omega) | (exfalso; contradiction) | (exfalso; simp_all))]; try rfl))
          · refine lv_iload_n hx hb dX3_standingOn_36 rfl (lv_at hl 1 rfl) ?_
            refine lv_istore_n (lv' := [(2, .int (J i)), (4, .ref (rl i)), (3, .int (J i)), (0, .ref li), (1, .int (J d))]) hx hb dX3_standingOn_37 rfl hl (by decide) rfl (fun ls hl => ?_)
            refine lv_iinc (v := J (i + 1)) (lv' := [(3, .int (J (i + 1))), (2, .int (J i)), (4, .ref (rl i)), (0, .ref li), (1, .int (J d))]) hx hb dX3_standingOn_38 hl (k := 2) rfl (J_add _ _) (by decide) rfl (fun ls hl => ?_)
            refine lv_goto (tgt := 5) hx hb dX3_standingOn_41 (by decide) ?_
            exact ih5 (i + 1) (by omega) (by omega) _ (lv_sub hl [0, 1, 3, 4] (by rw [show (lo (gd (V 0 1) (fun x o => if V 10 o ≤ d then o else x)) (-4) (i + 1) : Int) = i from (by rw [lo_s _ _ (by omega)]; simp only [gd] <;> (repeat' split) <;> first | rfl | omega | (exfalso; omega) | (exfalso; contradiction) | (exfalso; simp_all))]; try rfl))
        · refine j_qn (qN_n sp19) ?_
          refine lv_astoreN (lv' := [(4, .null), (3, .int (J i)), (2, .int (J (lo (gd (V 0 1) (fun x o => if V 10 o ≤ d then o else x)) (-4) i))), (0, .ref li), (1, .int (J d))]) hx hb dX3_standingOn_20 hl (by decide) rfl (fun ls hl => ?_)
          refine lv_aloadN hx hb dX3_standingOn_22 (lv_at hl 0 rfl) ?_
          refine lv_ifnullN (tgt := 38) hx hb dX3_standingOn_24 (by decide) ?_
          refine lv_iinc (v := J (i + 1)) (lv' := [(3, .int (J (i + 1))), (4, .null), (2, .int (J (lo (gd (V 0 1) (fun x o => if V 10 o ≤ d then o else x)) (-4) i))), (0, .ref li), (1, .int (J d))]) hx hb dX3_standingOn_38 hl (k := 1) rfl (J_add _ _) (by decide) rfl (fun ls hl => ?_)
          refine lv_goto (tgt := 5) hx hb dX3_standingOn_41 (by decide) ?_
          exact ih5 (i + 1) (by omega) (by omega) _ (lv_sub hl [0, 2, 3, 4] (by rw [show (lo (gd (V 0 1) (fun x o => if V 10 o ≤ d then o else x)) (-4) (i + 1) : Int) = lo (gd (V 0 1) (fun x o => if V 10 o ≤ d then o else x)) (-4) i from (by rw [lo_s _ _ (by omega)]; simp only [gd] <;> (repeat' split) <;> first | rfl | omega | (exfalso; omega) | (exfalso; contradiction) | (exfalso; simp_all))]; try rfl))
  exact lp5 11 0 (by omega) (by omega) _ (lv_sub hl [0, 1, 2, 3] (by rw [show (lo (gd (V 0 1) (fun x o => if V 10 o ≤ d then o else x)) (-4) 0 : Int) = (-4) from (by rfl)]; try rfl))

abbrev rmX3_nextChange : Room := { frames := 1, cells := 0, slots := 0, locals := 22 }
set_option maxHeartbeats 4000000 in
set_option maxRecDepth 100000 in
theorem c_X3_nextChange (l : Launch) (G : GG) (li lr : Nat) (rl ru un : Int → Nat) (uc ud : Int → Int) (V : St) (d nx : Int) (h_d : 0 ≤ d ∧ d < nx) (h_n : nx ≤ 3650) : MP l G yX3_nextChange wsX3_nextChange rmX3_nextChange [.ref li, .int (J d), .int (J nx)] (fun H => Li G H li lr rl ru un uc ud V) (.int (J (nxL V d nx)) : Value) := by
  refine MP.of (cc := cX3_nextChange) (maxL := 6) (ret := (some .int)) (by decide) rfl (Nat.le_of_ble_eq_true rfl) ?_
  intro p e s m below meth c hx hb hr hml hown hts hlk hK hP ls hl
  have hown : s.vm.findClass RX3 = some m.cls := hown
  have hl : lv_has ls 6 [(0, .ref li), (1, .int (J d)), (2, .int (J nx))] := hl
  have inX3_ : ∀ w ∈ u_ws RX3 TX3 2, w ∈ wsX3_nextChange := by decide +kernel
  have inX4_ : ∀ w ∈ u_ws RX4 TX4 2, w ∈ wsX3_nextChange := by decide +kernel
  have lk0 := hts (.fieldLink RX3 11 "RateBook$Lists" "byDay" "[LRateBook$RateList;") (by decide +kernel)
  have lk1 := hts (.fieldLink RX3 25 "RateBook$RateList" "day" "I") (by decide +kernel)
  have lk2 := hts (.initialized RX8) (by decide +kernel)
  have lk3 := hts (.static yX8_sooner) (by decide +kernel)
  have hL : Li G s.heap li lr rl ru un uc ud V := hP
  obtain ⟨hL1, hL2, hL3, hL4, hL5, hL6⟩ := id hL
  have hnl := hL1.l
  refine lv_iload_n hx hb dX3_nextChange_0 rfl (lv_at hl 2 rfl) ?_
  refine lv_istore_n (lv' := [(3, .int (J nx)), (0, .ref li), (1, .int (J d)), (2, .int (J nx))]) hx hb dX3_nextChange_1 rfl hl (by decide) rfl (fun ls hl => ?_)
  refine j_const hx hb dX3_nextChange_2 ?_
  refine lv_istore (lv' := [(4, .int (J 0)), (3, .int (J nx)), (0, .ref li), (1, .int (J d)), (2, .int (J nx))]) hx hb dX3_nextChange_3 hl (by decide) rfl (fun ls hl => ?_)
  have lp5 : ∀ (n : Nat) (i : Int) (i0 : 0 ≤ i ∧ i ≤ 10) (hm : 10 - i < (n : Int)) (ls : Array Slot) (hl : lv_has ls 6 [(4, .int (J i)), (3, .int (J (lo (gd (V 0 1) (fun x o => snr (V 10 o) d x)) nx i))), (0, .ref li), (1, .int (J d)), (2, .int (J nx))]), W p l e (headSpec wsX3_nextChange rmX3_nextChange).room s m ([.ref li, .int (J d), .int (J nx)] : List Value).toArray below meth c s.heap [] 0 0 (MQ below (k2_QcV (.int (J (nxL V d nx)) : Value)) ([.ref li, .int (J d), .int (J nx)] : List Value).toArray s 0 0 (fun _ => False)) (F0 m 5 ls []) := by
    intro n
    induction n with
    | zero =>
      intro i i0 hm ls hl
      exact absurd hm (by omega)
    | succ n ih5 =>
      intro i i0 hm ls hl
      have hrg := gd_nxL_rng (V := V) (n := V 0 1) h_d.2 i0.1
      refine lv_iload hx hb dX3_nextChange_5 (lv_at hl 0 rfl) ?_
      refine lv_aload_n hx hb dX3_nextChange_7 rfl (lv_at hl 2 rfl) ?_
      refine j_get (ci := 3) (v := .ref lr) hx hb hts inX3_ hown hK hL2 rfl 0 (by decide) lk0 (fun _ h9 => h9) rfl dX3_nextChange_8 ?_
      refine j_alQ (C := RX4) hx hb hK hL3 rfl dX3_nextChange_11 ?_
      refine j_re (y := 10) rfl ?_
      refine j_cge (tgt := 46) hx hb (by omega) (by omega) (by decide) (by decide) dX3_nextChange_12 (by decide) (fun c12 => ?_) (fun c12 => ?_)
      · refine lv_iload_n hx hb dX3_nextChange_46 rfl (lv_at hl 1 rfl) ?_
        exact r_i hx hb hr hlk (congrArg (fun z => Value.int (J z)) (show (lo (gd (V 0 1) (fun x o => snr (V 10 o) d x)) nx i : Int) = nxL V d nx from by rw [show i = 10 by omega]; exact lo_gd hnl.1 hnl.2)) dX3_nextChange_47
      · refine lv_aload_n hx hb dX3_nextChange_15 rfl (lv_at hl 2 rfl) ?_
        refine j_get (ci := 3) (v := .ref lr) hx hb hts inX3_ hown hK hL2 rfl 0 (by decide) lk0 (fun _ h9 => h9) rfl dX3_nextChange_16 ?_
        refine lv_iload hx hb dX3_nextChange_19 (lv_at hl 0 rfl) ?_
        refine j_aald (C := RX4) hx hb hK hL3 rfl (by omega) (by omega) (by decide) dX3_nextChange_21 ?_
        by_cases sp21 : 0 ≤ i ∧ i < V 0 1
        · refine j_qs (b := rl i) (qN_s sp21) ?_
          have hce_1 := hL4 i sp21.1 sp21.2
          have hdr := hL1.d sp21.1 sp21.2
          refine lv_astore (lv' := [(5, .ref (rl i)), (4, .int (J i)), (3, .int (J (lo (gd (V 0 1) (fun x o => snr (V 10 o) d x)) nx i))), (0, .ref li), (1, .int (J d)), (2, .int (J nx))]) hx hb dX3_nextChange_22 hl (by decide) rfl (fun ls hl => ?_)
          refine lv_aload hx hb dX3_nextChange_24 (lv_at hl 0 rfl) ?_
          refine lv_ifnull hx hb dX3_nextChange_26 ?_
          refine lv_aload hx hb dX3_nextChange_29 (lv_at hl 0 rfl) ?_
          refine j_get (ci := 4) (v := .int (J (V 10 i))) hx hb hts inX4_ hown hK hce_1 rfl 0 (by decide) lk1 (fun _ h9 => h9) rfl dX3_nextChange_31 ?_
          refine lv_iload_n hx hb dX3_nextChange_34 rfl (lv_at hl 4 rfl) ?_
          refine lv_iload_n hx hb dX3_nextChange_35 rfl (lv_at hl 2 rfl) ?_
          refine k_SN (As := [.int (J (V 10 i)), .int (J d), .int (J (lo (gd (V 0 1) (fun x o => snr (V 10 o) d x)) nx i))]) (rest := []) (v := .int (J (snr (V 10 i) d (lo (gd (V 0 1) (fun x o => snr (V 10 o) d x)) nx i)))) hx hb hml hown hts hK hl.1 (c_X8_sooner l G (V 10 i) d (lo (gd (V 0 1) (fun x o => snr (V 10 o) d x)) nx i) ((by omega)) ((by omega)) ((by omega))) (va_cnB 3 hts gX3_nextChange_X8_sooner_n31 rfl rfl rfl hK.2.1.2.2.2.2.2 lk2 (by decide +kernel) ⟨Nat.le_of_ble_eq_true rfl, Nat.le_of_ble_eq_true rfl⟩) lk3 trivial rfl rfl (Nat.le_of_ble_eq_true rfl) dX3_nextChange_36 ⟨Nat.zero_le _, Nat.zero_le _⟩ ?_
          refine lv_istore_n (lv' := [(3, .int (J (snr (V 10 i) d (lo (gd (V 0 1) (fun x o => snr (V 10 o) d x)) nx i)))), (5, .ref (rl i)), (4, .int (J i)), (0, .ref li), (1, .int (J d)), (2, .int (J nx))]) hx hb dX3_nextChange_39 rfl hl (by decide) rfl (fun ls hl => ?_)
          refine lv_iinc (v := J (i + 1)) (lv' := [(4, .int (J (i + 1))), (3, .int (J (snr (V 10 i) d (lo (gd (V 0 1) (fun x o => snr (V 10 o) d x)) nx i)))), (5, .ref (rl i)), (0, .ref li), (1, .int (J d)), (2, .int (J nx))]) hx hb dX3_nextChange_40 hl (k := 2) rfl (J_add _ _) (by decide) rfl (fun ls hl => ?_)
          refine lv_goto (tgt := 5) hx hb dX3_nextChange_43 (by decide) ?_
          exact ih5 (i + 1) (by omega) (by omega) _ (lv_sub hl [0, 1, 3, 4, 5] (by rw [show (lo (gd (V 0 1) (fun x o => snr (V 10 o) d x)) nx (i + 1) : Int) = snr (V 10 i) d (lo (gd (V 0 1) (fun x o => snr (V 10 o) d x)) nx i) from (by rw [lo_s _ _ (by omega)]; simp only [gd] <;> (repeat' split) <;> first | rfl | omega | (exfalso; omega) | (exfalso; contradiction) | (exfalso; simp_all))]; try rfl))
        · refine j_qn (qN_n sp21) ?_
          refine lv_astoreN (lv' := [(5, .null), (4, .int (J i)), (3, .int (J (lo (gd (V 0 1) (fun x o => snr (V 10 o) d x)) nx i))), (0, .ref li), (1, .int (J d)), (2, .int (J nx))]) hx hb dX3_nextChange_22 hl (by decide) rfl (fun ls hl => ?_)
          refine lv_aloadN hx hb dX3_nextChange_24 (lv_at hl 0 rfl) ?_
          refine lv_ifnullN (tgt := 40) hx hb dX3_nextChange_26 (by decide) ?_
          refine lv_iinc (v := J (i + 1)) (lv' := [(4, .int (J (i + 1))), (5, .null), (3, .int (J (lo (gd (V 0 1) (fun x o => snr (V 10 o) d x)) nx i))), (0, .ref li), (1, .int (J d)), (2, .int (J nx))]) hx hb dX3_nextChange_40 hl (k := 1) rfl (J_add _ _) (by decide) rfl (fun ls hl => ?_)
          refine lv_goto (tgt := 5) hx hb dX3_nextChange_43 (by decide) ?_
          exact ih5 (i + 1) (by omega) (by omega) _ (lv_sub hl [0, 2, 3, 4, 5] (by rw [show (lo (gd (V 0 1) (fun x o => snr (V 10 o) d x)) nx (i + 1) : Int) = lo (gd (V 0 1) (fun x o => snr (V 10 o) d x)) nx i from (by rw [lo_s _ _ (by omega)]; simp only [gd] <;> (repeat' split) <;> first | rfl | omega | (exfalso; omega) | (exfalso; contradiction) | (exfalso; simp_all))]; try rfl))
  exact lp5 11 0 (by omega) (by omega) _ (lv_sub hl [0, 1, 2, 3, 4] (by rw [show (lo (gd (V 0 1) (fun x o => snr (V 10 o) d x)) nx 0 : Int) = nx from (by rfl)]; try rfl))

abbrev rmX4_unitFor : Room := { frames := 0, cells := 0, slots := 0, locals := 0 }
set_option maxHeartbeats 4000000 in
set_option maxRecDepth 100000 in
theorem c_X4_unitFor (l : Launch) (G : GG) (li lr : Nat) (rl ru un : Int → Nat) (uc ud : Int → Int) (V : St) (i k s_ : Int) (h_i : 0 ≤ i ∧ i < V 0 1) (h_k : 0 ≤ k ∧ k ≤ 2) (h_s : 0 ≤ s_ ∧ s_ ≤ 5) : MP l G yX4_unitFor wsX4_unitFor rmX4_unitFor [.ref (rl i), .int (J k), .int (J s_)] (fun H => Li G H li lr rl ru un uc ud V) (va_rf (some (un (18 * i + (k * 6 + s_)))) : Value) := by
  refine MP.of (cc := cX4_unitFor) (maxL := 4) (ret := (some (.object "RateBook$Unit"))) (by decide) rfl (Nat.le_of_ble_eq_true rfl) ?_
  intro p e s m below meth c hx hb hr hml hown hts hlk hK hP ls hl
  have hown : s.vm.findClass RX4 = some m.cls := hown
  have hl : lv_has ls 4 [(0, .ref (rl i)), (1, .int (J k)), (2, .int (J s_))] := hl
  have inX4_ : ∀ w ∈ u_ws RX4 TX4 2, w ∈ wsX4_unitFor := by decide +kernel
  have lk0 := hts (.fieldLink RX4 17 "RateBook$RateList" "units" "[LRateBook$Unit;") (by decide +kernel)
  have hL : Li G s.heap li lr rl ru un uc ud V := hP
  obtain ⟨hL1, hL2, hL3, hL4, hL5, hL6⟩ := id hL
  have hnl := hL1.l
  have hR := hL4 i h_i.1 h_i.2
  have hU := hL5 i h_i.1 h_i.2
  refine lv_iload_n hx hb dX4_unitFor_0 rfl (lv_at hl 1 rfl) ?_
  refine j_bi hx hb dX4_unitFor_1 (by decide +kernel) ?_
  refine j_mul hx hb dX4_unitFor_3 ?_
  refine lv_iload_n hx hb dX4_unitFor_4 rfl (lv_at hl 2 rfl) ?_
  refine j_add hx hb dX4_unitFor_5 ?_
  refine lv_istore_n (lv' := [(3, .int (J ((k * 6) + s_))), (0, .ref (rl i)), (1, .int (J k)), (2, .int (J s_))]) hx hb dX4_unitFor_6 rfl hl (by decide) rfl (fun ls hl => ?_)
  refine lv_iload_n hx hb dX4_unitFor_7 rfl (lv_at hl 0 rfl) ?_
  refine j_lt0 (tgt := 29) hx hb (by omega) (by omega) dX4_unitFor_8 (by decide) (fun c8 => ?_) (fun c8 => ?_)
  · refine lv_null hx hb dX4_unitFor_29 ?_
    exact r_a hx hb hr hlk (o := none) rfl (congrArg va_rf (show (none : Option Nat) = some (un (18 * i + (k * 6 + s_))) from (by omega))) dX4_unitFor_30
  · refine lv_iload_n hx hb dX4_unitFor_11 rfl (lv_at hl 0 rfl) ?_
    refine lv_aload_n hx hb dX4_unitFor_12 rfl (lv_at hl 1 rfl) ?_
    refine j_get (ci := 4) (v := .ref (ru i)) hx hb hts inX4_ hown hK hR rfl 1 (by decide) lk0 (fun _ h9 => h9) rfl dX4_unitFor_13 ?_
    refine j_alQ (C := RX6) hx hb hK hU rfl dX4_unitFor_16 ?_
    refine j_re (y := 18) rfl ?_
    refine j_cge (tgt := 29) hx hb (by omega) (by omega) (by decide) (by decide) dX4_unitFor_17 (by decide) (fun c17 => ?_) (fun c17 => ?_)
    · refine lv_null hx hb dX4_unitFor_29 ?_
      exact r_a hx hb hr hlk (o := none) rfl (congrArg va_rf (show (none : Option Nat) = some (un (18 * i + (k * 6 + s_))) from (by omega))) dX4_unitFor_30
    · refine lv_aload_n hx hb dX4_unitFor_20 rfl (lv_at hl 1 rfl) ?_
      refine j_get (ci := 4) (v := .ref (ru i)) hx hb hts inX4_ hown hK hR rfl 1 (by decide) lk0 (fun _ h9 => h9) rfl dX4_unitFor_21 ?_
      refine lv_iload_n hx hb dX4_unitFor_24 rfl (lv_at hl 0 rfl) ?_
      refine j_aald (C := RX6) hx hb hK hU rfl (by omega) (by omega) (by decide) dX4_unitFor_25 ?_
      refine j_qs (b := un (18 * i + ((k * 6) + s_))) rfl ?_
      refine lv_goto (tgt := 30) hx hb dX4_unitFor_26 (by decide) ?_
      exact r_a hx hb hr hlk (o := some (un (18 * i + ((k * 6) + s_)))) rfl (congrArg va_rf (show (some (un (18 * i + ((k * 6) + s_))) : Option Nat) = some (un (18 * i + (k * 6 + s_))) from rfl)) dX4_unitFor_30

abbrev rmX6_times : Room := { frames := 0, cells := 0, slots := 0, locals := 0 }
set_option maxHeartbeats 4000000 in
set_option maxRecDepth 100000 in
theorem c_X6_times (l : Launch) (G : GG) (q : Nat) (b1 b2 b3 b4 z : Int) (h_1 : 1 ≤ b1 ∧ b1 ≤ 100000) (h_2 : 1 ≤ b2 ∧ b2 ≤ 500) (h_z : 1 ≤ z ∧ z ≤ 500) : MP l G yX6_times wsX6_times rmX6_times [.ref q, .int (J z)] (fun H => At G H q (eO 6 [.int (J b1), .int (J b2), .int (J b3), .int (J b4)])) (.long (JL (z * b1 / b2)) : Value) := by
  refine MP.of (cc := cX6_times) (maxL := 2) (ret := (some .long)) (by decide) rfl (Nat.le_of_ble_eq_true rfl) ?_
  intro p e s m below meth c hx hb hr hml hown hts hlk hK hP ls hl
  have hown : s.vm.findClass RX6 = some m.cls := hown
  have hl : lv_has ls 2 [(0, .ref q), (1, .int (J z))] := hl
  have inX6_ : ∀ w ∈ u_ws RX6 TX6 4, w ∈ wsX6_times := by decide +kernel
  have lk0 := hts (.fieldLink RX6 13 "RateBook$Unit" "below" "I") (by decide +kernel)
  have lk1 := hts (.fieldLink RX6 7 "RateBook$Unit" "above" "I") (by decide +kernel)
  have hm := mulb (a := z) (b := b1) (A := 500) (B := 100000) (by omega) (by omega) (by omega) (by omega)
  refine lv_aload_n hx hb dX6_times_0 rfl (lv_at hl 0 rfl) ?_
  refine j_get (ci := 6) (v := .int (J b2)) hx hb hts inX6_ hown hK hP rfl 1 (by decide) lk0 (fun _ h9 => h9) rfl dX6_times_1 ?_
  refine j_gt0 (tgt := 11) hx hb (by omega) (by omega) dX6_times_4 (by decide) (fun c4 => ?_) (fun c4 => ?_)
  · refine lv_iload_n hx hb dX6_times_11 rfl (lv_at hl 1 rfl) ?_
    refine j_i2l hx hb (by omega) (by omega) dX6_times_12 ?_
    refine lv_aload_n hx hb dX6_times_13 rfl (lv_at hl 0 rfl) ?_
    refine j_get (ci := 6) (v := .int (J b1)) hx hb hts inX6_ hown hK hP rfl 0 (by decide) lk1 (fun _ h9 => h9) rfl dX6_times_14 ?_
    refine j_i2l hx hb (by omega) (by omega) dX6_times_17 ?_
    refine j_lmul hx hb dX6_times_18 ?_
    refine lv_aload_n hx hb dX6_times_19 rfl (lv_at hl 0 rfl) ?_
    refine j_get (ci := 6) (v := .int (J b2)) hx hb hts inX6_ hown hK hP rfl 1 (by decide) lk0 (fun _ h9 => h9) rfl dX6_times_20 ?_
    refine j_i2l hx hb (by omega) (by omega) dX6_times_23 ?_
    refine j_ldiv hx hb (by omega) (by omega) (by omega) (by omega) dX6_times_24 ?_
    exact r_l hx hb hr hlk (congrArg (fun z => Value.long (JL z)) (show ((z * b1) / b2 : Int) = z * b1 / b2 from by omega)) dX6_times_25
  · refine j_lconst hx hb (z := 0) dX6_times_7 rfl ?_
    refine lv_goto (tgt := 25) hx hb dX6_times_8 (by decide) ?_
    exact r_l hx hb hr hlk (congrArg (fun z => Value.long (JL z)) (show (0 : Int) = z * b1 / b2 from by omega)) dX6_times_25

abbrev rmX7_billedTo : Room := { frames := 0, cells := 0, slots := 0, locals := 0 }
set_option maxHeartbeats 4000000 in
set_option maxRecDepth 100000 in
theorem c_X7_billedTo (l : Launch) (G : GG) (yb yl yp : Int → Nat) (V : St) (y : Int) (z : Int) (h_z : 0 ≤ z ∧ z < 40) : MP l G yX7_billedTo wsX7_billedTo rmX7_billedTo [.ref (yb y), .int (J z)] (fun H => Bk G H yb yl yp V y) (.int (J (blF V y z)) : Value) := by
  refine MP.of (cc := cX7_billedTo) (maxL := 2) (ret := (some .int)) (by decide) rfl (Nat.le_of_ble_eq_true rfl) ?_
  intro p e s m below meth c hx hb hr hml hown hts hlk hK hP ls hl
  have hown : s.vm.findClass RX7 = some m.cls := hown
  have hl : lv_has ls 2 [(0, .ref (yb y)), (1, .int (J z))] := hl
  have inX7_ : ∀ w ∈ u_ws RX7 TX7 5, w ∈ wsX7_billedTo := by decide +kernel
  have lk0 := hts (.fieldLink RX7 9 "RateBook$YearBook" "billed" "[I") (by decide +kernel)
  have hB : Bk G s.heap yb yl yp V y := hP
  obtain ⟨hB1, hB2, hB3, hB4⟩ := id hB
  refine lv_iload_n hx hb dX7_billedTo_0 rfl (lv_at hl 1 rfl) ?_
  refine j_lt0 (tgt := 22) hx hb (by omega) (by omega) dX7_billedTo_1 (by decide) (fun c1 => ?_) (fun c1 => ?_)
  · refine j_bi hx hb dX7_billedTo_22 (by decide +kernel) ?_
    exact r_i hx hb hr hlk (congrArg (fun z => Value.int (J z)) (show ((-4) : Int) = blF V y z from by omega)) dX7_billedTo_24
  · refine lv_iload_n hx hb dX7_billedTo_4 rfl (lv_at hl 1 rfl) ?_
    refine lv_aload_n hx hb dX7_billedTo_5 rfl (lv_at hl 0 rfl) ?_
    refine j_get (ci := 7) (v := .ref (yl y)) hx hb hts inX7_ hown hK hB2 rfl 0 (by decide) lk0 (fun _ h9 => h9) rfl dX7_billedTo_6 ?_
    refine j_alI hx hb hK hB3 dX7_billedTo_9 ?_
    refine j_re (y := 40) rfl ?_
    refine j_cge (tgt := 22) hx hb (by omega) (by omega) (by decide) (by decide) dX7_billedTo_10 (by decide) (fun c10 => ?_) (fun c10 => ?_)
    · refine j_bi hx hb dX7_billedTo_22 (by decide +kernel) ?_
      exact r_i hx hb hr hlk (congrArg (fun z => Value.int (J z)) (show ((-4) : Int) = blF V y z from by omega)) dX7_billedTo_24
    · refine lv_aload_n hx hb dX7_billedTo_13 rfl (lv_at hl 0 rfl) ?_
      refine j_get (ci := 7) (v := .ref (yl y)) hx hb hts inX7_ hown hK hB2 rfl 0 (by decide) lk0 (fun _ h9 => h9) rfl dX7_billedTo_14 ?_
      refine lv_iload_n hx hb dX7_billedTo_17 rfl (lv_at hl 1 rfl) ?_
      refine j_iald hx hb hK hB3 (by omega) (by omega) (by decide) dX7_billedTo_18 ?_
      refine lv_goto (tgt := 24) hx hb dX7_billedTo_19 (by decide) ?_
      exact r_i hx hb hr hlk (congrArg (fun z => Value.int (J z)) (show ((blF V y) z : Int) = blF V y z from by omega)) dX7_billedTo_24

abbrev rmX7_paidBy : Room := { frames := 0, cells := 0, slots := 0, locals := 0 }
set_option maxHeartbeats 4000000 in
set_option maxRecDepth 100000 in
theorem c_X7_paidBy (l : Launch) (G : GG) (yb yl yp : Int → Nat) (V : St) (y : Int) (z : Int) (h_z : 0 ≤ z ∧ z < 40) : MP l G yX7_paidBy wsX7_paidBy rmX7_paidBy [.ref (yb y), .int (J z)] (fun H => Bk G H yb yl yp V y) (.int (J (pdF V y z)) : Value) := by
  refine MP.of (cc := cX7_paidBy) (maxL := 2) (ret := (some .int)) (by decide) rfl (Nat.le_of_ble_eq_true rfl) ?_
  intro p e s m below meth c hx hb hr hml hown hts hlk hK hP ls hl
  have hown : s.vm.findClass RX7 = some m.cls := hown
  have hl : lv_has ls 2 [(0, .ref (yb y)), (1, .int (J z))] := hl
  have inX7_ : ∀ w ∈ u_ws RX7 TX7 5, w ∈ wsX7_paidBy := by decide +kernel
  have lk0 := hts (.fieldLink RX7 15 "RateBook$YearBook" "payments" "[I") (by decide +kernel)
  have hB : Bk G s.heap yb yl yp V y := hP
  obtain ⟨hB1, hB2, hB3, hB4⟩ := id hB
  refine lv_iload_n hx hb dX7_paidBy_0 rfl (lv_at hl 1 rfl) ?_
  refine j_lt0 (tgt := 22) hx hb (by omega) (by omega) dX7_paidBy_1 (by decide) (fun c1 => ?_) (fun c1 => ?_)
  · refine j_const hx hb dX7_paidBy_22 ?_
    exact r_i hx hb hr hlk (congrArg (fun z => Value.int (J z)) (show (0 : Int) = pdF V y z from by omega)) dX7_paidBy_23
  · refine lv_iload_n hx hb dX7_paidBy_4 rfl (lv_at hl 1 rfl) ?_
    refine lv_aload_n hx hb dX7_paidBy_5 rfl (lv_at hl 0 rfl) ?_
    refine j_get (ci := 7) (v := .ref (yp y)) hx hb hts inX7_ hown hK hB2 rfl 1 (by decide) lk0 (fun _ h9 => h9) rfl dX7_paidBy_6 ?_
    refine j_alI hx hb hK hB4 dX7_paidBy_9 ?_
    refine j_re (y := 40) rfl ?_
    refine j_cge (tgt := 22) hx hb (by omega) (by omega) (by decide) (by decide) dX7_paidBy_10 (by decide) (fun c10 => ?_) (fun c10 => ?_)
    · refine j_const hx hb dX7_paidBy_22 ?_
      exact r_i hx hb hr hlk (congrArg (fun z => Value.int (J z)) (show (0 : Int) = pdF V y z from by omega)) dX7_paidBy_23
    · refine lv_aload_n hx hb dX7_paidBy_13 rfl (lv_at hl 0 rfl) ?_
      refine j_get (ci := 7) (v := .ref (yp y)) hx hb hts inX7_ hown hK hB2 rfl 1 (by decide) lk0 (fun _ h9 => h9) rfl dX7_paidBy_14 ?_
      refine lv_iload_n hx hb dX7_paidBy_17 rfl (lv_at hl 1 rfl) ?_
      refine j_iald hx hb hK hB4 (by omega) (by omega) (by decide) dX7_paidBy_18 ?_
      refine lv_goto (tgt := 23) hx hb dX7_paidBy_19 (by decide) ?_
      exact r_i hx hb hr hlk (congrArg (fun z => Value.int (J z)) (show ((pdF V y) z : Int) = pdF V y z from by omega)) dX7_paidBy_23
end
section
theorem zz_end : True := trivial
end
