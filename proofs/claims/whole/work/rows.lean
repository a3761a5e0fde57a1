section
-- ===== PART A: goes FIRST, ahead of the names: the tables' words, and 'selects' of the private methods out of them =====
/-- a private method of a class that the tables say can be made, by its rows of tables_1 -/
def lw_okq (q : MethodName × Nat) : Prop := (q.1.cls ≠ "java/lang/invoke/MethodHandle" ∧ q.1.cls ≠ "java/lang/invoke/VarHandle") ∧ Cond.instantiable q.1.cls q.2 ∈ tables_1 ∧ Cond.privateMethod q.1 ∈ tables_1 ∧ Cond.instanceMethod q.1 ∈ tables_1
theorem lw_p0 : lw_okq (⟨"DynamicForest", "pathError", "(II)I"⟩, 4) := ⟨⟨by decide +kernel, by decide +kernel⟩, List.mem_of_getElem? (i := 6) (by decide +kernel), List.mem_of_getElem? (i := 167) (by decide +kernel), List.mem_of_getElem? (i := 168) (by decide +kernel)⟩
theorem lw_p1 : lw_okq (⟨"DynamicForest", "tracePath", "(II)I"⟩, 4) := ⟨⟨by decide +kernel, by decide +kernel⟩, List.mem_of_getElem? (i := 6) (by decide +kernel), List.mem_of_getElem? (i := 189) (by decide +kernel), List.mem_of_getElem? (i := 190) (by decide +kernel)⟩
theorem lw_p2 : lw_okq (⟨"DynamicForest$Path", "appendClimb", "(LDynamicForest$Forest;II)V"⟩, 2) := ⟨⟨by decide +kernel, by decide +kernel⟩, List.mem_of_getElem? (i := 35) (by decide +kernel), List.mem_of_getElem? (i := 198) (by decide +kernel), List.mem_of_getElem? (i := 199) (by decide +kernel)⟩
theorem lw_p3 : lw_okq (⟨"DynamicForest$Path", "append", "(I)V"⟩, 2) := ⟨⟨by decide +kernel, by decide +kernel⟩, List.mem_of_getElem? (i := 35) (by decide +kernel), List.mem_of_getElem? (i := 202) (by decide +kernel), List.mem_of_getElem? (i := 203) (by decide +kernel)⟩
theorem lw_p4 : lw_okq (⟨"DynamicForest$Path", "reverseFrom", "(I)V"⟩, 2) := ⟨⟨by decide +kernel, by decide +kernel⟩, List.mem_of_getElem? (i := 35) (by decide +kernel), List.mem_of_getElem? (i := 207) (by decide +kernel), List.mem_of_getElem? (i := 208) (by decide +kernel)⟩
theorem lw_p5 : lw_okq (⟨"DynamicForest$Path", "swap", "(II)V"⟩, 2) := ⟨⟨by decide +kernel, by decide +kernel⟩, List.mem_of_getElem? (i := 35) (by decide +kernel), List.mem_of_getElem? (i := 211) (by decide +kernel), List.mem_of_getElem? (i := 212) (by decide +kernel)⟩
theorem lw_p6 : lw_okq (⟨"DynamicForest", "slotAt", "(I)LDynamicForest$Forest;"⟩, 4) := ⟨⟨by decide +kernel, by decide +kernel⟩, List.mem_of_getElem? (i := 6) (by decide +kernel), List.mem_of_getElem? (i := 335) (by decide +kernel), List.mem_of_getElem? (i := 336) (by decide +kernel)⟩
theorem lw_p7 : lw_okq (⟨"DynamicForestModel", "begin", "(I)V"⟩, 5) := ⟨⟨by decide +kernel, by decide +kernel⟩, List.mem_of_getElem? (i := 348) (by decide +kernel), List.mem_of_getElem? (i := 354) (by decide +kernel), List.mem_of_getElem? (i := 355) (by decide +kernel)⟩
theorem lw_p8 : lw_okq (⟨"DynamicForestModel", "many", "()I"⟩, 5) := ⟨⟨by decide +kernel, by decide +kernel⟩, List.mem_of_getElem? (i := 348) (by decide +kernel), List.mem_of_getElem? (i := 382) (by decide +kernel), List.mem_of_getElem? (i := 383) (by decide +kernel)⟩
theorem lw_p9 : lw_okq (⟨"DynamicForestModel", "isVertex", "(I)Z"⟩, 5) := ⟨⟨by decide +kernel, by decide +kernel⟩, List.mem_of_getElem? (i := 348) (by decide +kernel), List.mem_of_getElem? (i := 390) (by decide +kernel), List.mem_of_getElem? (i := 391) (by decide +kernel)⟩
theorem lw_p10 : lw_okq (⟨"DynamicForestModel", "isRoot", "(I)Z"⟩, 5) := ⟨⟨by decide +kernel, by decide +kernel⟩, List.mem_of_getElem? (i := 348) (by decide +kernel), List.mem_of_getElem? (i := 395) (by decide +kernel), List.mem_of_getElem? (i := 396) (by decide +kernel)⟩
theorem lw_p11 : lw_okq (⟨"DynamicForestModel", "above", "(I)I"⟩, 5) := ⟨⟨by decide +kernel, by decide +kernel⟩, List.mem_of_getElem? (i := 348) (by decide +kernel), List.mem_of_getElem? (i := 399) (by decide +kernel), List.mem_of_getElem? (i := 400) (by decide +kernel)⟩
theorem lw_p12 : lw_okq (⟨"DynamicForestModel", "rootOf", "(I)I"⟩, 5) := ⟨⟨by decide +kernel, by decide +kernel⟩, List.mem_of_getElem? (i := 348) (by decide +kernel), List.mem_of_getElem? (i := 404) (by decide +kernel), List.mem_of_getElem? (i := 405) (by decide +kernel)⟩
theorem lw_p13 : lw_okq (⟨"DynamicForestModel", "depthOf", "(I)I"⟩, 5) := ⟨⟨by decide +kernel, by decide +kernel⟩, List.mem_of_getElem? (i := 348) (by decide +kernel), List.mem_of_getElem? (i := 438) (by decide +kernel), List.mem_of_getElem? (i := 439) (by decide +kernel)⟩
theorem lw_p14 : lw_okq (⟨"DynamicForestModel", "wrongPair", "(II)I"⟩, 5) := ⟨⟨by decide +kernel, by decide +kernel⟩, List.mem_of_getElem? (i := 348) (by decide +kernel), List.mem_of_getElem? (i := 450) (by decide +kernel), List.mem_of_getElem? (i := 451) (by decide +kernel)⟩
theorem lw_p15 : lw_okq (⟨"DynamicForestModel", "meetingOf", "(II)I"⟩, 5) := ⟨⟨by decide +kernel, by decide +kernel⟩, List.mem_of_getElem? (i := 348) (by decide +kernel), List.mem_of_getElem? (i := 455) (by decide +kernel), List.mem_of_getElem? (i := 456) (by decide +kernel)⟩
def lw_privs_1 : List (MethodName × Nat) := [(⟨"DynamicForest", "pathError", "(II)I"⟩, 4), (⟨"DynamicForest", "tracePath", "(II)I"⟩, 4), (⟨"DynamicForest$Path", "appendClimb", "(LDynamicForest$Forest;II)V"⟩, 2), (⟨"DynamicForest$Path", "append", "(I)V"⟩, 2), (⟨"DynamicForest$Path", "reverseFrom", "(I)V"⟩, 2), (⟨"DynamicForest$Path", "swap", "(II)V"⟩, 2), (⟨"DynamicForest", "slotAt", "(I)LDynamicForest$Forest;"⟩, 4), (⟨"DynamicForestModel", "begin", "(I)V"⟩, 5), (⟨"DynamicForestModel", "many", "()I"⟩, 5), (⟨"DynamicForestModel", "isVertex", "(I)Z"⟩, 5), (⟨"DynamicForestModel", "isRoot", "(I)Z"⟩, 5), (⟨"DynamicForestModel", "above", "(I)I"⟩, 5), (⟨"DynamicForestModel", "rootOf", "(I)I"⟩, 5), (⟨"DynamicForestModel", "depthOf", "(I)I"⟩, 5), (⟨"DynamicForestModel", "wrongPair", "(II)I"⟩, 5), (⟨"DynamicForestModel", "meetingOf", "(II)I"⟩, 5)]
theorem lw_r1 : ∀ q ∈ lw_privs_1, lw_okq q := List.forall_mem_cons.mpr ⟨lw_p0, List.forall_mem_cons.mpr ⟨lw_p1, List.forall_mem_cons.mpr ⟨lw_p2, List.forall_mem_cons.mpr ⟨lw_p3, List.forall_mem_cons.mpr ⟨lw_p4, List.forall_mem_cons.mpr ⟨lw_p5, List.forall_mem_cons.mpr ⟨lw_p6, List.forall_mem_cons.mpr ⟨lw_p7, List.forall_mem_cons.mpr ⟨lw_p8, List.forall_mem_cons.mpr ⟨lw_p9, List.forall_mem_cons.mpr ⟨lw_p10, List.forall_mem_cons.mpr ⟨lw_p11, List.forall_mem_cons.mpr ⟨lw_p12, List.forall_mem_cons.mpr ⟨lw_p13, List.forall_mem_cons.mpr ⟨lw_p14, List.forall_mem_cons.mpr ⟨lw_p15, fun _ h => absurd h List.not_mem_nil⟩⟩⟩⟩⟩⟩⟩⟩⟩⟩⟩⟩⟩⟩⟩⟩
theorem lw_p16 : lw_okq (⟨"DynamicForestModel", "distanceOf", "(II)I"⟩, 5) := ⟨⟨by decide +kernel, by decide +kernel⟩, List.mem_of_getElem? (i := 348) (by decide +kernel), List.mem_of_getElem? (i := 463) (by decide +kernel), List.mem_of_getElem? (i := 464) (by decide +kernel)⟩
theorem lw_p17 : lw_okq (⟨"DynamicForestModel", "layPath", "(II)V"⟩, 5) := ⟨⟨by decide +kernel, by decide +kernel⟩, List.mem_of_getElem? (i := 348) (by decide +kernel), List.mem_of_getElem? (i := 471) (by decide +kernel), List.mem_of_getElem? (i := 472) (by decide +kernel)⟩
theorem lw_p18 : lw_okq (⟨"DynamicForestModel", "valueOf", "(I)I"⟩, 5) := ⟨⟨by decide +kernel, by decide +kernel⟩, List.mem_of_getElem? (i := 348) (by decide +kernel), List.mem_of_getElem? (i := 479) (by decide +kernel), List.mem_of_getElem? (i := 480) (by decide +kernel)⟩
theorem lw_p19 : lw_okq (⟨"DynamicForestModel", "farthest", "(I)I"⟩, 5) := ⟨⟨by decide +kernel, by decide +kernel⟩, List.mem_of_getElem? (i := 348) (by decide +kernel), List.mem_of_getElem? (i := 487) (by decide +kernel), List.mem_of_getElem? (i := 488) (by decide +kernel)⟩
theorem lw_p20 : lw_okq (⟨"DynamicForestModel", "isUnder", "(II)Z"⟩, 5) := ⟨⟨by decide +kernel, by decide +kernel⟩, List.mem_of_getElem? (i := 348) (by decide +kernel), List.mem_of_getElem? (i := 521) (by decide +kernel), List.mem_of_getElem? (i := 522) (by decide +kernel)⟩
def lw_privs_2 : List (MethodName × Nat) := [(⟨"DynamicForestModel", "distanceOf", "(II)I"⟩, 5), (⟨"DynamicForestModel", "layPath", "(II)V"⟩, 5), (⟨"DynamicForestModel", "valueOf", "(I)I"⟩, 5), (⟨"DynamicForestModel", "farthest", "(I)I"⟩, 5), (⟨"DynamicForestModel", "isUnder", "(II)Z"⟩, 5)]
theorem lw_r2 : ∀ q ∈ lw_privs_2, lw_okq q := List.forall_mem_cons.mpr ⟨lw_p16, List.forall_mem_cons.mpr ⟨lw_p17, List.forall_mem_cons.mpr ⟨lw_p18, List.forall_mem_cons.mpr ⟨lw_p19, List.forall_mem_cons.mpr ⟨lw_p20, fun _ h => absurd h List.not_mem_nil⟩⟩⟩⟩⟩
def lw_privs : List (MethodName × Nat) := lw_privs_1 ++ (lw_privs_2)
def lw_tbl : List Cond := k2_sels lw_privs ++ tables_1
theorem lw_privs_ok : ∀ q ∈ lw_privs, lw_okq q := by
  show ∀ q ∈ lw_privs_1 ++ (lw_privs_2), lw_okq q
  exact List.forall_mem_append.mpr ⟨lw_r1, lw_r2⟩

/-! ===== BEGIN words of one list among another's, by their places ===== -/
theorem goodIn_r {big : List Cond} (ws : List Cond) (ps : List Nat) (hp : ws = ps.filterMap (fun i => big[i]?)) (h : ws.all goodWord = true) : GoodIn big ws := by
  intro w hw
  have h1 := List.all_eq_true.mp h w hw
  rw [hp] at hw
  obtain ⟨i, -, hi⟩ := List.mem_filterMap.mp hw
  have hm : w ∈ big := by first | exact List.mem_of_getElem? hi | exact List.getElem?_mem hi
  exact ⟨hm, good_of_word h1⟩
theorem goodIn_app {big a b : List Cond} (ha : GoodIn big a) (hb : GoodIn big b) : GoodIn big (a ++ b) := fun w h => (List.mem_append.mp h).elim (ha w) (hb w)
theorem goodIn_ca {big a b : List Cond} {c : Cond} (ha : GoodIn big (c :: a)) (hb : GoodIn big b) : GoodIn big (c :: (a ++ b)) := fun w h => (List.mem_cons.mp h).elim (fun e => ha w (List.mem_cons.mpr (Or.inl e))) (fun h => (List.mem_append.mp h).elim (fun h => ha w (List.mem_cons.mpr (Or.inr h))) (hb w))
theorem goodIn_sub {big ws : List Cond} (hm : ∀ w ∈ ws, w ∈ big) (h : ws.all goodWord = true) : GoodIn big ws := fun w hw => ⟨hm w hw, good_of_word (List.all_eq_true.mp h w hw)⟩
/-! ===== END ===== -/

/-! ===== BEGIN printed: names, fields, word lists, decode rows ===== -/
def RX0 : String := "DynamicForest$Forest"
def TX0 : u_T := fun k => match k with
  | 0 => ("DynamicForest$Forest", "size", "I", false)
  | 1 => ("DynamicForest$Forest", "parents", "[I", true)
  | 2 => ("DynamicForest$Forest", "values", "[I", true)
  | _ => ("DynamicForest$Forest", "marks", "[Z", true)
def tyX0 : Nat → FieldType := fun k => match k with
  | 0 => .int
  | 1 => .array .int
  | 2 => .array .int
  | _ => .array .boolean
abbrev wsX00 : List Cond := u_ws RX0 TX0 4
theorem nmX0 : ∀ a, a < 4 → ∀ b, b < 4 → a ≠ b → (TX0 a).2.1 ≠ (TX0 b).2.1 := by decide +kernel
theorem tyX0_ok : ∀ k, k < 4 → parseFieldDescriptor (TX0 k).2.2.1 = some (tyX0 k) := by decide +kernel
abbrev cX0_init : ByteArray := prog_2_method_1_code
def yX0_init : MethodName := ⟨RX0, "<init>", "()V"⟩
abbrev cX0_size : ByteArray := prog_2_method_2_code
def yX0_size : MethodName := ⟨RX0, "size", "()I"⟩
abbrev cX0_startAnew : ByteArray := prog_2_method_3_code
def yX0_startAnew : MethodName := ⟨RX0, "startAnew", "(I)V"⟩
abbrev cX0_copyFrom : ByteArray := prog_2_method_4_code
def yX0_copyFrom : MethodName := ⟨RX0, "copyFrom", "(LDynamicForest$Forest;)V"⟩
abbrev cX0_has : ByteArray := prog_2_method_5_code
def yX0_has : MethodName := ⟨RX0, "has", "(I)Z"⟩
abbrev cX0_parentOf : ByteArray := prog_2_method_6_code
def yX0_parentOf : MethodName := ⟨RX0, "parentOf", "(I)I"⟩
abbrev cX0_putParent : ByteArray := prog_2_method_7_code
def yX0_putParent : MethodName := ⟨RX0, "putParent", "(II)V"⟩
abbrev cX0_isRoot : ByteArray := prog_2_method_8_code
def yX0_isRoot : MethodName := ⟨RX0, "isRoot", "(I)Z"⟩
abbrev cX0_valueOf : ByteArray := prog_2_method_9_code
def yX0_valueOf : MethodName := ⟨RX0, "valueOf", "(I)I"⟩
abbrev cX0_putValue : ByteArray := prog_2_method_10_code
def yX0_putValue : MethodName := ⟨RX0, "putValue", "(II)V"⟩
abbrev cX0_swapValues : ByteArray := prog_2_method_11_code
def yX0_swapValues : MethodName := ⟨RX0, "swapValues", "(II)V"⟩
abbrev cX0_isMarked : ByteArray := prog_2_method_12_code
def yX0_isMarked : MethodName := ⟨RX0, "isMarked", "(I)Z"⟩
abbrev cX0_putMark : ByteArray := prog_2_method_13_code
def yX0_putMark : MethodName := ⟨RX0, "putMark", "(IZ)V"⟩
abbrev cX0_countRoots : ByteArray := prog_2_method_14_code
def yX0_countRoots : MethodName := ⟨RX0, "countRoots", "()I"⟩
abbrev cX0_depthOf : ByteArray := prog_2_method_15_code
def yX0_depthOf : MethodName := ⟨RX0, "depthOf", "(I)I"⟩
abbrev cX0_rootOf : ByteArray := prog_2_method_16_code
def yX0_rootOf : MethodName := ⟨RX0, "rootOf", "(I)I"⟩
abbrev cX0_climb : ByteArray := prog_2_method_17_code
def yX0_climb : MethodName := ⟨RX0, "climb", "(II)I"⟩
abbrev cX0_isBelow : ByteArray := prog_2_method_18_code
def yX0_isBelow : MethodName := ⟨RX0, "isBelow", "(II)Z"⟩
abbrev cX0_countBelow : ByteArray := prog_2_method_19_code
def yX0_countBelow : MethodName := ⟨RX0, "countBelow", "(I)I"⟩
abbrev cX0_meetingPoint : ByteArray := prog_2_method_20_code
def yX0_meetingPoint : MethodName := ⟨RX0, "meetingPoint", "(II)I"⟩
abbrev cX0_edgesBetween : ByteArray := prog_2_method_21_code
def yX0_edgesBetween : MethodName := ⟨RX0, "edgesBetween", "(II)I"⟩
abbrev cX0_farthestFrom : ByteArray := prog_2_method_22_code
def yX0_farthestFrom : MethodName := ⟨RX0, "farthestFrom", "(I)I"⟩
abbrev cX0_nearestMarkOf : ByteArray := prog_2_method_23_code
def yX0_nearestMarkOf : MethodName := ⟨RX0, "nearestMarkOf", "(I)I"⟩
abbrev cX0_turnTowards : ByteArray := prog_2_method_24_code
def yX0_turnTowards : MethodName := ⟨RX0, "turnTowards", "(I)V"⟩
def RX1 : String := "DynamicForest$Path"
def TX1 : u_T := fun k => match k with
  | 0 => ("DynamicForest$Path", "vertices", "[I", true)
  | _ => ("DynamicForest$Path", "length", "I", false)
def tyX1 : Nat → FieldType := fun k => match k with
  | 0 => .array .int
  | _ => .int
abbrev wsX10 : List Cond := u_ws RX1 TX1 2
theorem nmX1 : ∀ a, a < 2 → ∀ b, b < 2 → a ≠ b → (TX1 a).2.1 ≠ (TX1 b).2.1 := by decide +kernel
theorem tyX1_ok : ∀ k, k < 2 → parseFieldDescriptor (TX1 k).2.2.1 = some (tyX1 k) := by decide +kernel
abbrev cX1_init : ByteArray := prog_3_method_1_code
def yX1_init : MethodName := ⟨RX1, "<init>", "()V"⟩
abbrev cX1_length : ByteArray := prog_3_method_2_code
def yX1_length : MethodName := ⟨RX1, "length", "()I"⟩
abbrev cX1_hasIndex : ByteArray := prog_3_method_3_code
def yX1_hasIndex : MethodName := ⟨RX1, "hasIndex", "(I)Z"⟩
abbrev cX1_vertexAt : ByteArray := prog_3_method_4_code
def yX1_vertexAt : MethodName := ⟨RX1, "vertexAt", "(I)I"⟩
abbrev cX1_trace : ByteArray := prog_3_method_5_code
def yX1_trace : MethodName := ⟨RX1, "trace", "(LDynamicForest$Forest;II)V"⟩
abbrev cX1_appendClimb : ByteArray := prog_3_method_6_code
def yX1_appendClimb : MethodName := ⟨RX1, "appendClimb", "(LDynamicForest$Forest;II)V"⟩
abbrev cX1_append : ByteArray := prog_3_method_7_code
def yX1_append : MethodName := ⟨RX1, "append", "(I)V"⟩
abbrev cX1_reverseFrom : ByteArray := prog_3_method_8_code
def yX1_reverseFrom : MethodName := ⟨RX1, "reverseFrom", "(I)V"⟩
abbrev cX1_swap : ByteArray := prog_3_method_9_code
def yX1_swap : MethodName := ⟨RX1, "swap", "(II)V"⟩
def RX2 : String := "DynamicForest"
def TX2 : u_T := fun k => match k with
  | 0 => ("DynamicForest", "forest", "LDynamicForest$Forest;", true)
  | 1 => ("DynamicForest", "firstSlot", "LDynamicForest$Forest;", true)
  | 2 => ("DynamicForest", "secondSlot", "LDynamicForest$Forest;", true)
  | _ => ("DynamicForest", "path", "LDynamicForest$Path;", true)
def tyX2 : Nat → FieldType := fun k => match k with
  | 0 => .object "DynamicForest$Forest"
  | 1 => .object "DynamicForest$Forest"
  | 2 => .object "DynamicForest$Forest"
  | _ => .object "DynamicForest$Path"
abbrev wsX20 : List Cond := u_ws RX2 TX2 4
theorem nmX2 : ∀ a, a < 4 → ∀ b, b < 4 → a ≠ b → (TX2 a).2.1 ≠ (TX2 b).2.1 := by decide +kernel
theorem tyX2_ok : ∀ k, k < 4 → parseFieldDescriptor (TX2 k).2.2.1 = some (tyX2 k) := by decide +kernel
abbrev cX2_init : ByteArray := prog_1_method_1_code
def yX2_init : MethodName := ⟨RX2, "<init>", "()V"⟩
abbrev cX2_reset : ByteArray := prog_1_method_2_code
def yX2_reset : MethodName := ⟨RX2, "reset", "(I)I"⟩
abbrev cX2_link : ByteArray := prog_1_method_3_code
def yX2_link : MethodName := ⟨RX2, "link", "(II)I"⟩
abbrev cX2_cut : ByteArray := prog_1_method_4_code
def yX2_cut : MethodName := ⟨RX2, "cut", "(I)I"⟩
abbrev cX2_reroot : ByteArray := prog_1_method_5_code
def yX2_reroot : MethodName := ⟨RX2, "reroot", "(I)I"⟩
abbrev cX2_vertexCount : ByteArray := prog_1_method_6_code
def yX2_vertexCount : MethodName := ⟨RX2, "vertexCount", "()I"⟩
abbrev cX2_treeCount : ByteArray := prog_1_method_7_code
def yX2_treeCount : MethodName := ⟨RX2, "treeCount", "()I"⟩
abbrev cX2_parent : ByteArray := prog_1_method_8_code
def yX2_parent : MethodName := ⟨RX2, "parent", "(I)I"⟩
abbrev cX2_root : ByteArray := prog_1_method_9_code
def yX2_root : MethodName := ⟨RX2, "root", "(I)I"⟩
abbrev cX2_depth : ByteArray := prog_1_method_10_code
def yX2_depth : MethodName := ⟨RX2, "depth", "(I)I"⟩
abbrev cX2_connected : ByteArray := prog_1_method_11_code
def yX2_connected : MethodName := ⟨RX2, "connected", "(II)I"⟩
abbrev cX2_commonAncestor : ByteArray := prog_1_method_12_code
def yX2_commonAncestor : MethodName := ⟨RX2, "commonAncestor", "(II)I"⟩
abbrev cX2_distance : ByteArray := prog_1_method_13_code
def yX2_distance : MethodName := ⟨RX2, "distance", "(II)I"⟩
abbrev cX2_pathVertex : ByteArray := prog_1_method_14_code
def yX2_pathVertex : MethodName := ⟨RX2, "pathVertex", "(III)I"⟩
abbrev cX2_pathSum : ByteArray := prog_1_method_15_code
def yX2_pathSum : MethodName := ⟨RX2, "pathSum", "(II)I"⟩
abbrev cX2_pathMinimum : ByteArray := prog_1_method_16_code
def yX2_pathMinimum : MethodName := ⟨RX2, "pathMinimum", "(II)I"⟩
abbrev cX2_pathMaximum : ByteArray := prog_1_method_17_code
def yX2_pathMaximum : MethodName := ⟨RX2, "pathMaximum", "(II)I"⟩
abbrev cX2_reach : ByteArray := prog_1_method_18_code
def yX2_reach : MethodName := ⟨RX2, "reach", "(III)I"⟩
abbrev cX2_addOnPath : ByteArray := prog_1_method_19_code
def yX2_addOnPath : MethodName := ⟨RX2, "addOnPath", "(III)I"⟩
abbrev cX2_setOnPath : ByteArray := prog_1_method_20_code
def yX2_setOnPath : MethodName := ⟨RX2, "setOnPath", "(III)I"⟩
abbrev cX2_reverseValues : ByteArray := prog_1_method_21_code
def yX2_reverseValues : MethodName := ⟨RX2, "reverseValues", "(II)I"⟩
abbrev cX2_subtreeSize : ByteArray := prog_1_method_22_code
def yX2_subtreeSize : MethodName := ⟨RX2, "subtreeSize", "(I)I"⟩
abbrev cX2_subtreeSum : ByteArray := prog_1_method_23_code
def yX2_subtreeSum : MethodName := ⟨RX2, "subtreeSum", "(I)I"⟩
abbrev cX2_addInSubtree : ByteArray := prog_1_method_24_code
def yX2_addInSubtree : MethodName := ⟨RX2, "addInSubtree", "(II)I"⟩
abbrev cX2_diameter : ByteArray := prog_1_method_25_code
def yX2_diameter : MethodName := ⟨RX2, "diameter", "(I)I"⟩
abbrev cX2_setValue : ByteArray := prog_1_method_26_code
def yX2_setValue : MethodName := ⟨RX2, "setValue", "(II)I"⟩
abbrev cX2_value : ByteArray := prog_1_method_27_code
def yX2_value : MethodName := ⟨RX2, "value", "(I)I"⟩
abbrev cX2_setMark : ByteArray := prog_1_method_28_code
def yX2_setMark : MethodName := ⟨RX2, "setMark", "(IZ)I"⟩
abbrev cX2_nearestMarked : ByteArray := prog_1_method_29_code
def yX2_nearestMarked : MethodName := ⟨RX2, "nearestMarked", "(I)I"⟩
abbrev cX2_save : ByteArray := prog_1_method_30_code
def yX2_save : MethodName := ⟨RX2, "save", "(I)I"⟩
abbrev cX2_restore : ByteArray := prog_1_method_31_code
def yX2_restore : MethodName := ⟨RX2, "restore", "(I)I"⟩
abbrev cX2_isValue : ByteArray := prog_1_method_32_code
def yX2_isValue : MethodName := ⟨RX2, "isValue", "(I)Z"⟩
abbrev cX2_isSlot : ByteArray := prog_1_method_33_code
def yX2_isSlot : MethodName := ⟨RX2, "isSlot", "(I)Z"⟩
abbrev cX2_slotAt : ByteArray := prog_1_method_34_code
def yX2_slotAt : MethodName := ⟨RX2, "slotAt", "(I)LDynamicForest$Forest;"⟩
abbrev cX2_pathError : ByteArray := prog_1_method_35_code
def yX2_pathError : MethodName := ⟨RX2, "pathError", "(II)I"⟩
abbrev cX2_tracePath : ByteArray := prog_1_method_36_code
def yX2_tracePath : MethodName := ⟨RX2, "tracePath", "(II)I"⟩
def RX3 : String := "DynamicForestModel"
def TX3 : u_T := fun k => match k with
  | 0 => ("DynamicForestModel", "state", "[I", true)
  | 1 => ("DynamicForestModel", "slots", "[I", true)
  | 2 => ("DynamicForestModel", "isSaved", "[Z", true)
  | 3 => ("DynamicForestModel", "path", "[I", true)
  | _ => ("DynamicForestModel", "pathMany", "I", false)
def tyX3 : Nat → FieldType := fun k => match k with
  | 0 => .array .int
  | 1 => .array .int
  | 2 => .array .boolean
  | 3 => .array .int
  | _ => .int
abbrev wsX30 : List Cond := u_ws RX3 TX3 5
theorem nmX3 : ∀ a, a < 5 → ∀ b, b < 5 → a ≠ b → (TX3 a).2.1 ≠ (TX3 b).2.1 := by decide +kernel
theorem tyX3_ok : ∀ k, k < 5 → parseFieldDescriptor (TX3 k).2.2.1 = some (tyX3 k) := by decide +kernel
abbrev cX3_init : ByteArray := prog_5_method_1_code
def yX3_init : MethodName := ⟨RX3, "<init>", "()V"⟩
abbrev cX3_in : ByteArray := prog_5_method_2_code
def yX3_in : MethodName := ⟨RX3, "in", "(III)Z"⟩
abbrev cX3_begin : ByteArray := prog_5_method_3_code
def yX3_begin : MethodName := ⟨RX3, "begin", "(I)V"⟩
abbrev cX3_many : ByteArray := prog_5_method_4_code
def yX3_many : MethodName := ⟨RX3, "many", "()I"⟩
abbrev cX3_isVertex : ByteArray := prog_5_method_5_code
def yX3_isVertex : MethodName := ⟨RX3, "isVertex", "(I)Z"⟩
abbrev cX3_above : ByteArray := prog_5_method_6_code
def yX3_above : MethodName := ⟨RX3, "above", "(I)I"⟩
abbrev cX3_isRoot : ByteArray := prog_5_method_7_code
def yX3_isRoot : MethodName := ⟨RX3, "isRoot", "(I)Z"⟩
abbrev cX3_valueOf : ByteArray := prog_5_method_8_code
def yX3_valueOf : MethodName := ⟨RX3, "valueOf", "(I)I"⟩
abbrev cX3_rootOf : ByteArray := prog_5_method_9_code
def yX3_rootOf : MethodName := ⟨RX3, "rootOf", "(I)I"⟩
abbrev cX3_depthOf : ByteArray := prog_5_method_10_code
def yX3_depthOf : MethodName := ⟨RX3, "depthOf", "(I)I"⟩
abbrev cX3_reset : ByteArray := prog_5_method_11_code
def yX3_reset : MethodName := ⟨RX3, "reset", "(I)I"⟩
abbrev cX3_link : ByteArray := prog_5_method_12_code
def yX3_link : MethodName := ⟨RX3, "link", "(II)I"⟩
abbrev cX3_cut : ByteArray := prog_5_method_13_code
def yX3_cut : MethodName := ⟨RX3, "cut", "(I)I"⟩
abbrev cX3_reroot : ByteArray := prog_5_method_14_code
def yX3_reroot : MethodName := ⟨RX3, "reroot", "(I)I"⟩
abbrev cX3_vertexCount : ByteArray := prog_5_method_15_code
def yX3_vertexCount : MethodName := ⟨RX3, "vertexCount", "()I"⟩
abbrev cX3_treeCount : ByteArray := prog_5_method_16_code
def yX3_treeCount : MethodName := ⟨RX3, "treeCount", "()I"⟩
abbrev cX3_parent : ByteArray := prog_5_method_17_code
def yX3_parent : MethodName := ⟨RX3, "parent", "(I)I"⟩
abbrev cX3_root : ByteArray := prog_5_method_18_code
def yX3_root : MethodName := ⟨RX3, "root", "(I)I"⟩
abbrev cX3_depth : ByteArray := prog_5_method_19_code
def yX3_depth : MethodName := ⟨RX3, "depth", "(I)I"⟩
abbrev cX3_connected : ByteArray := prog_5_method_20_code
def yX3_connected : MethodName := ⟨RX3, "connected", "(II)I"⟩
abbrev cX3_wrongPair : ByteArray := prog_5_method_21_code
def yX3_wrongPair : MethodName := ⟨RX3, "wrongPair", "(II)I"⟩
abbrev cX3_meetingOf : ByteArray := prog_5_method_22_code
def yX3_meetingOf : MethodName := ⟨RX3, "meetingOf", "(II)I"⟩
abbrev cX3_layPath : ByteArray := prog_5_method_23_code
def yX3_layPath : MethodName := ⟨RX3, "layPath", "(II)V"⟩
abbrev cX3_commonAncestor : ByteArray := prog_5_method_24_code
def yX3_commonAncestor : MethodName := ⟨RX3, "commonAncestor", "(II)I"⟩
abbrev cX3_distanceOf : ByteArray := prog_5_method_25_code
def yX3_distanceOf : MethodName := ⟨RX3, "distanceOf", "(II)I"⟩
abbrev cX3_distance : ByteArray := prog_5_method_26_code
def yX3_distance : MethodName := ⟨RX3, "distance", "(II)I"⟩
abbrev cX3_pathVertex : ByteArray := prog_5_method_27_code
def yX3_pathVertex : MethodName := ⟨RX3, "pathVertex", "(III)I"⟩
abbrev cX3_pathSum : ByteArray := prog_5_method_28_code
def yX3_pathSum : MethodName := ⟨RX3, "pathSum", "(II)I"⟩
abbrev cX3_farthest : ByteArray := prog_5_method_29_code
def yX3_farthest : MethodName := ⟨RX3, "farthest", "(I)I"⟩
abbrev cX3_pathMinimum : ByteArray := prog_5_method_30_code
def yX3_pathMinimum : MethodName := ⟨RX3, "pathMinimum", "(II)I"⟩
abbrev cX3_pathMaximum : ByteArray := prog_5_method_31_code
def yX3_pathMaximum : MethodName := ⟨RX3, "pathMaximum", "(II)I"⟩
abbrev cX3_reach : ByteArray := prog_5_method_32_code
def yX3_reach : MethodName := ⟨RX3, "reach", "(III)I"⟩
abbrev cX3_isValue : ByteArray := prog_5_method_33_code
def yX3_isValue : MethodName := ⟨RX3, "isValue", "(I)Z"⟩
abbrev cX3_addOnPath : ByteArray := prog_5_method_34_code
def yX3_addOnPath : MethodName := ⟨RX3, "addOnPath", "(III)I"⟩
abbrev cX3_setOnPath : ByteArray := prog_5_method_35_code
def yX3_setOnPath : MethodName := ⟨RX3, "setOnPath", "(III)I"⟩
abbrev cX3_reverseValues : ByteArray := prog_5_method_36_code
def yX3_reverseValues : MethodName := ⟨RX3, "reverseValues", "(II)I"⟩
abbrev cX3_isUnder : ByteArray := prog_5_method_37_code
def yX3_isUnder : MethodName := ⟨RX3, "isUnder", "(II)Z"⟩
abbrev cX3_subtreeSize : ByteArray := prog_5_method_38_code
def yX3_subtreeSize : MethodName := ⟨RX3, "subtreeSize", "(I)I"⟩
abbrev cX3_subtreeSum : ByteArray := prog_5_method_39_code
def yX3_subtreeSum : MethodName := ⟨RX3, "subtreeSum", "(I)I"⟩
abbrev cX3_addInSubtree : ByteArray := prog_5_method_40_code
def yX3_addInSubtree : MethodName := ⟨RX3, "addInSubtree", "(II)I"⟩
abbrev cX3_diameter : ByteArray := prog_5_method_41_code
def yX3_diameter : MethodName := ⟨RX3, "diameter", "(I)I"⟩
abbrev cX3_setValue : ByteArray := prog_5_method_42_code
def yX3_setValue : MethodName := ⟨RX3, "setValue", "(II)I"⟩
abbrev cX3_value : ByteArray := prog_5_method_43_code
def yX3_value : MethodName := ⟨RX3, "value", "(I)I"⟩
abbrev cX3_setMark : ByteArray := prog_5_method_44_code
def yX3_setMark : MethodName := ⟨RX3, "setMark", "(IZ)I"⟩
abbrev cX3_nearestMarked : ByteArray := prog_5_method_45_code
def yX3_nearestMarked : MethodName := ⟨RX3, "nearestMarked", "(I)I"⟩
abbrev cX3_save : ByteArray := prog_5_method_46_code
def yX3_save : MethodName := ⟨RX3, "save", "(I)I"⟩
abbrev cX3_restore : ByteArray := prog_5_method_47_code
def yX3_restore : MethodName := ⟨RX3, "restore", "(I)I"⟩
def RL : String := "DynamicForestLaw"
abbrev cL_law : ByteArray := code
def yL_law : MethodName := ⟨RL, "law", "([I)Z"⟩
def wsX0_init : List Cond := .code yX0_init cX0_init 1 none :: ([.methodLink RX0 3 objectInit, .instanceMethod objectInit, .code objectInit ⟨#[0xb1]⟩ 1 none, .fieldLink RX0 9 "DynamicForest$Forest" "size" "I", .arrayClass .int, .fieldLink RX0 15 "DynamicForest$Forest" "parents" "[I", .fieldLink RX0 19 "DynamicForest$Forest" "values" "[I", .arrayClass .boolean, .fieldLink RX0 22 "DynamicForest$Forest" "marks" "[Z"] ++ wsX00)
def wsX0_size : List Cond := .code yX0_size cX0_size 1 (some .int) :: ([.fieldLink RX0 9 "DynamicForest$Forest" "size" "I"] ++ wsX00)
def wsX0_startAnew : List Cond := .code yX0_startAnew cX0_startAnew 3 none :: ([.fieldLink RX0 9 "DynamicForest$Forest" "size" "I", .fieldLink RX0 15 "DynamicForest$Forest" "parents" "[I", .fieldLink RX0 19 "DynamicForest$Forest" "values" "[I", .fieldLink RX0 22 "DynamicForest$Forest" "marks" "[Z"] ++ wsX00)
def wsX0_copyFrom : List Cond := .code yX0_copyFrom cX0_copyFrom 3 none :: ([.fieldLink RX0 9 "DynamicForest$Forest" "size" "I", .fieldLink RX0 15 "DynamicForest$Forest" "parents" "[I", .fieldLink RX0 19 "DynamicForest$Forest" "values" "[I", .fieldLink RX0 22 "DynamicForest$Forest" "marks" "[Z"] ++ wsX00)
def wsX0_has : List Cond := .code yX0_has cX0_has 2 (some .boolean) :: ([.fieldLink RX0 9 "DynamicForest$Forest" "size" "I"] ++ wsX00)
def wsX0_parentOf : List Cond := .code yX0_parentOf cX0_parentOf 2 (some .int) :: ([.fieldLink RX0 15 "DynamicForest$Forest" "parents" "[I", .methodLink RX0 26 yX0_has, .instanceMethod yX0_has, .selects RX0 yX0_has yX0_has, .initialized RX0, .code yX0_has cX0_has 2 (some .boolean), .fieldLink RX0 9 "DynamicForest$Forest" "size" "I"] ++ wsX00)
def wsX0_putParent : List Cond := .code yX0_putParent cX0_putParent 3 none :: ([.fieldLink RX0 15 "DynamicForest$Forest" "parents" "[I", .methodLink RX0 26 yX0_has, .instanceMethod yX0_has, .selects RX0 yX0_has yX0_has, .initialized RX0, .code yX0_has cX0_has 2 (some .boolean), .fieldLink RX0 9 "DynamicForest$Forest" "size" "I"] ++ wsX00)
def wsX0_isRoot : List Cond := .code yX0_isRoot cX0_isRoot 2 (some .boolean) :: ([.methodLink RX0 30 yX0_parentOf, .instanceMethod yX0_parentOf, .selects RX0 yX0_parentOf yX0_parentOf, .initialized RX0, .code yX0_parentOf cX0_parentOf 2 (some .int), .fieldLink RX0 15 "DynamicForest$Forest" "parents" "[I", .methodLink RX0 26 yX0_has, .instanceMethod yX0_has, .selects RX0 yX0_has yX0_has, .code yX0_has cX0_has 2 (some .boolean), .fieldLink RX0 9 "DynamicForest$Forest" "size" "I"] ++ wsX00)
def wsX0_valueOf : List Cond := .code yX0_valueOf cX0_valueOf 2 (some .int) :: ([.fieldLink RX0 19 "DynamicForest$Forest" "values" "[I", .methodLink RX0 26 yX0_has, .instanceMethod yX0_has, .selects RX0 yX0_has yX0_has, .initialized RX0, .code yX0_has cX0_has 2 (some .boolean), .fieldLink RX0 9 "DynamicForest$Forest" "size" "I"] ++ wsX00)
def wsX0_putValue : List Cond := .code yX0_putValue cX0_putValue 3 none :: ([.fieldLink RX0 19 "DynamicForest$Forest" "values" "[I", .methodLink RX0 26 yX0_has, .instanceMethod yX0_has, .selects RX0 yX0_has yX0_has, .initialized RX0, .code yX0_has cX0_has 2 (some .boolean), .fieldLink RX0 9 "DynamicForest$Forest" "size" "I"] ++ wsX00)
def wsX0_swapValues : List Cond := .code yX0_swapValues cX0_swapValues 4 none :: ([.methodLink RX0 34 yX0_valueOf, .instanceMethod yX0_valueOf, .selects RX0 yX0_valueOf yX0_valueOf, .initialized RX0, .code yX0_valueOf cX0_valueOf 2 (some .int), .fieldLink RX0 19 "DynamicForest$Forest" "values" "[I", .methodLink RX0 26 yX0_has, .instanceMethod yX0_has, .selects RX0 yX0_has yX0_has, .code yX0_has cX0_has 2 (some .boolean), .fieldLink RX0 9 "DynamicForest$Forest" "size" "I", .methodLink RX0 37 yX0_putValue, .instanceMethod yX0_putValue, .selects RX0 yX0_putValue yX0_putValue, .code yX0_putValue cX0_putValue 3 none] ++ wsX00)
def wsX0_isMarked : List Cond := .code yX0_isMarked cX0_isMarked 2 (some .boolean) :: ([.fieldLink RX0 22 "DynamicForest$Forest" "marks" "[Z", .methodLink RX0 26 yX0_has, .instanceMethod yX0_has, .selects RX0 yX0_has yX0_has, .initialized RX0, .code yX0_has cX0_has 2 (some .boolean), .fieldLink RX0 9 "DynamicForest$Forest" "size" "I"] ++ wsX00)
def wsX0_putMark : List Cond := .code yX0_putMark cX0_putMark 3 none :: ([.fieldLink RX0 22 "DynamicForest$Forest" "marks" "[Z", .methodLink RX0 26 yX0_has, .instanceMethod yX0_has, .selects RX0 yX0_has yX0_has, .initialized RX0, .code yX0_has cX0_has 2 (some .boolean), .fieldLink RX0 9 "DynamicForest$Forest" "size" "I"] ++ wsX00)
def wsX0_countRoots : List Cond := .code yX0_countRoots cX0_countRoots 3 (some .int) :: ([.fieldLink RX0 9 "DynamicForest$Forest" "size" "I", .methodLink RX0 41 yX0_isRoot, .instanceMethod yX0_isRoot, .selects RX0 yX0_isRoot yX0_isRoot, .initialized RX0, .code yX0_isRoot cX0_isRoot 2 (some .boolean), .methodLink RX0 30 yX0_parentOf, .instanceMethod yX0_parentOf, .selects RX0 yX0_parentOf yX0_parentOf, .code yX0_parentOf cX0_parentOf 2 (some .int), .fieldLink RX0 15 "DynamicForest$Forest" "parents" "[I", .methodLink RX0 26 yX0_has, .instanceMethod yX0_has, .selects RX0 yX0_has yX0_has, .code yX0_has cX0_has 2 (some .boolean)] ++ wsX00)
def wsX0_depthOf : List Cond := .code yX0_depthOf cX0_depthOf 4 (some .int) :: ([.methodLink RX0 30 yX0_parentOf, .instanceMethod yX0_parentOf, .selects RX0 yX0_parentOf yX0_parentOf, .initialized RX0, .code yX0_parentOf cX0_parentOf 2 (some .int), .fieldLink RX0 15 "DynamicForest$Forest" "parents" "[I", .methodLink RX0 26 yX0_has, .instanceMethod yX0_has, .selects RX0 yX0_has yX0_has, .code yX0_has cX0_has 2 (some .boolean), .fieldLink RX0 9 "DynamicForest$Forest" "size" "I"] ++ wsX00)
def wsX0_climb : List Cond := .code yX0_climb cX0_climb 5 (some .int) :: ([.methodLink RX0 30 yX0_parentOf, .instanceMethod yX0_parentOf, .selects RX0 yX0_parentOf yX0_parentOf, .initialized RX0, .code yX0_parentOf cX0_parentOf 2 (some .int), .fieldLink RX0 15 "DynamicForest$Forest" "parents" "[I", .methodLink RX0 26 yX0_has, .instanceMethod yX0_has, .selects RX0 yX0_has yX0_has, .code yX0_has cX0_has 2 (some .boolean), .fieldLink RX0 9 "DynamicForest$Forest" "size" "I"] ++ wsX00)
def wsX0_rootOf : List Cond := .code yX0_rootOf cX0_rootOf 2 (some .int) :: ([.methodLink RX0 44 yX0_depthOf, .instanceMethod yX0_depthOf, .selects RX0 yX0_depthOf yX0_depthOf, .initialized RX0, .code yX0_depthOf cX0_depthOf 4 (some .int), .methodLink RX0 30 yX0_parentOf, .instanceMethod yX0_parentOf, .selects RX0 yX0_parentOf yX0_parentOf, .code yX0_parentOf cX0_parentOf 2 (some .int), .fieldLink RX0 15 "DynamicForest$Forest" "parents" "[I", .methodLink RX0 26 yX0_has, .instanceMethod yX0_has, .selects RX0 yX0_has yX0_has, .code yX0_has cX0_has 2 (some .boolean), .fieldLink RX0 9 "DynamicForest$Forest" "size" "I", .methodLink RX0 47 yX0_climb, .instanceMethod yX0_climb, .selects RX0 yX0_climb yX0_climb, .code yX0_climb cX0_climb 5 (some .int)] ++ wsX00)
def wsX0_isBelow : List Cond := .code yX0_isBelow cX0_isBelow 4 (some .boolean) :: ([.methodLink RX0 44 yX0_depthOf, .instanceMethod yX0_depthOf, .selects RX0 yX0_depthOf yX0_depthOf, .initialized RX0, .code yX0_depthOf cX0_depthOf 4 (some .int), .methodLink RX0 30 yX0_parentOf, .instanceMethod yX0_parentOf, .selects RX0 yX0_parentOf yX0_parentOf, .code yX0_parentOf cX0_parentOf 2 (some .int), .fieldLink RX0 15 "DynamicForest$Forest" "parents" "[I", .methodLink RX0 26 yX0_has, .instanceMethod yX0_has, .selects RX0 yX0_has yX0_has, .code yX0_has cX0_has 2 (some .boolean), .fieldLink RX0 9 "DynamicForest$Forest" "size" "I", .methodLink RX0 47 yX0_climb, .instanceMethod yX0_climb, .selects RX0 yX0_climb yX0_climb, .code yX0_climb cX0_climb 5 (some .int)] ++ wsX00)
def wsX0_countBelow : List Cond := .code yX0_countBelow cX0_countBelow 4 (some .int) :: ([.fieldLink RX0 9 "DynamicForest$Forest" "size" "I", .methodLink RX0 51 yX0_isBelow, .instanceMethod yX0_isBelow, .selects RX0 yX0_isBelow yX0_isBelow, .initialized RX0, .code yX0_isBelow cX0_isBelow 4 (some .boolean), .methodLink RX0 44 yX0_depthOf, .instanceMethod yX0_depthOf, .selects RX0 yX0_depthOf yX0_depthOf, .code yX0_depthOf cX0_depthOf 4 (some .int), .methodLink RX0 30 yX0_parentOf, .instanceMethod yX0_parentOf, .selects RX0 yX0_parentOf yX0_parentOf, .code yX0_parentOf cX0_parentOf 2 (some .int), .fieldLink RX0 15 "DynamicForest$Forest" "parents" "[I", .methodLink RX0 26 yX0_has, .instanceMethod yX0_has, .selects RX0 yX0_has yX0_has, .code yX0_has cX0_has 2 (some .boolean), .methodLink RX0 47 yX0_climb, .instanceMethod yX0_climb, .selects RX0 yX0_climb yX0_climb, .code yX0_climb cX0_climb 5 (some .int)] ++ wsX00)
def wsX0_meetingPoint : List Cond := .code yX0_meetingPoint cX0_meetingPoint 7 (some .int) :: ([.methodLink RX0 44 yX0_depthOf, .instanceMethod yX0_depthOf, .selects RX0 yX0_depthOf yX0_depthOf, .initialized RX0, .code yX0_depthOf cX0_depthOf 4 (some .int), .methodLink RX0 30 yX0_parentOf, .instanceMethod yX0_parentOf, .selects RX0 yX0_parentOf yX0_parentOf, .code yX0_parentOf cX0_parentOf 2 (some .int), .fieldLink RX0 15 "DynamicForest$Forest" "parents" "[I", .methodLink RX0 26 yX0_has, .instanceMethod yX0_has, .selects RX0 yX0_has yX0_has, .code yX0_has cX0_has 2 (some .boolean), .fieldLink RX0 9 "DynamicForest$Forest" "size" "I", .methodLink RX0 47 yX0_climb, .instanceMethod yX0_climb, .selects RX0 yX0_climb yX0_climb, .code yX0_climb cX0_climb 5 (some .int)] ++ wsX00)
def wsX0_edgesBetween : List Cond := .code yX0_edgesBetween cX0_edgesBetween 3 (some .int) :: ([.methodLink RX0 44 yX0_depthOf, .instanceMethod yX0_depthOf, .selects RX0 yX0_depthOf yX0_depthOf, .initialized RX0, .code yX0_depthOf cX0_depthOf 4 (some .int), .methodLink RX0 30 yX0_parentOf, .instanceMethod yX0_parentOf, .selects RX0 yX0_parentOf yX0_parentOf, .code yX0_parentOf cX0_parentOf 2 (some .int), .fieldLink RX0 15 "DynamicForest$Forest" "parents" "[I", .methodLink RX0 26 yX0_has, .instanceMethod yX0_has, .selects RX0 yX0_has yX0_has, .code yX0_has cX0_has 2 (some .boolean), .fieldLink RX0 9 "DynamicForest$Forest" "size" "I", .methodLink RX0 55 yX0_meetingPoint, .instanceMethod yX0_meetingPoint, .selects RX0 yX0_meetingPoint yX0_meetingPoint, .code yX0_meetingPoint cX0_meetingPoint 7 (some .int), .methodLink RX0 47 yX0_climb, .instanceMethod yX0_climb, .selects RX0 yX0_climb yX0_climb, .code yX0_climb cX0_climb 5 (some .int)] ++ wsX00)
def wsX0_farthestFrom_r1 : List Cond := [Cond.fieldLink RX0 9 "DynamicForest$Forest" "size" "I", Cond.methodLink RX0 58 yX0_rootOf, Cond.instanceMethod yX0_rootOf, Cond.selects RX0 yX0_rootOf yX0_rootOf, Cond.initialized RX0, Cond.code yX0_rootOf cX0_rootOf 2 (some .int), Cond.methodLink RX0 44 yX0_depthOf, Cond.instanceMethod yX0_depthOf, Cond.selects RX0 yX0_depthOf yX0_depthOf, Cond.code yX0_depthOf cX0_depthOf 4 (some .int), Cond.methodLink RX0 30 yX0_parentOf, Cond.instanceMethod yX0_parentOf, Cond.selects RX0 yX0_parentOf yX0_parentOf, Cond.code yX0_parentOf cX0_parentOf 2 (some .int), Cond.fieldLink RX0 15 "DynamicForest$Forest" "parents" "[I", Cond.methodLink RX0 26 yX0_has, Cond.instanceMethod yX0_has, Cond.selects RX0 yX0_has yX0_has, Cond.code yX0_has cX0_has 2 (some .boolean), Cond.methodLink RX0 47 yX0_climb, Cond.instanceMethod yX0_climb, Cond.selects RX0 yX0_climb yX0_climb, Cond.code yX0_climb cX0_climb 5 (some .int), Cond.methodLink RX0 61 yX0_edgesBetween]
def wsX0_farthestFrom_r2 : List Cond := [Cond.instanceMethod yX0_edgesBetween, Cond.selects RX0 yX0_edgesBetween yX0_edgesBetween, Cond.code yX0_edgesBetween cX0_edgesBetween 3 (some .int), Cond.methodLink RX0 55 yX0_meetingPoint, Cond.instanceMethod yX0_meetingPoint, Cond.selects RX0 yX0_meetingPoint yX0_meetingPoint, Cond.code yX0_meetingPoint cX0_meetingPoint 7 (some .int)]
def wsX0_farthestFrom : List Cond := .code yX0_farthestFrom cX0_farthestFrom 7 (some .int) :: ((wsX0_farthestFrom_r1 ++ wsX0_farthestFrom_r2) ++ wsX00)
def wsX0_nearestMarkOf_r1 : List Cond := [Cond.fieldLink RX0 9 "DynamicForest$Forest" "size" "I", Cond.methodLink RX0 58 yX0_rootOf, Cond.instanceMethod yX0_rootOf, Cond.selects RX0 yX0_rootOf yX0_rootOf, Cond.initialized RX0, Cond.code yX0_rootOf cX0_rootOf 2 (some .int), Cond.methodLink RX0 44 yX0_depthOf, Cond.instanceMethod yX0_depthOf, Cond.selects RX0 yX0_depthOf yX0_depthOf, Cond.code yX0_depthOf cX0_depthOf 4 (some .int), Cond.methodLink RX0 30 yX0_parentOf, Cond.instanceMethod yX0_parentOf, Cond.selects RX0 yX0_parentOf yX0_parentOf, Cond.code yX0_parentOf cX0_parentOf 2 (some .int), Cond.fieldLink RX0 15 "DynamicForest$Forest" "parents" "[I", Cond.methodLink RX0 26 yX0_has, Cond.instanceMethod yX0_has, Cond.selects RX0 yX0_has yX0_has, Cond.code yX0_has cX0_has 2 (some .boolean), Cond.methodLink RX0 47 yX0_climb, Cond.instanceMethod yX0_climb, Cond.selects RX0 yX0_climb yX0_climb, Cond.code yX0_climb cX0_climb 5 (some .int), Cond.methodLink RX0 64 yX0_isMarked]
def wsX0_nearestMarkOf_r2 : List Cond := [Cond.instanceMethod yX0_isMarked, Cond.selects RX0 yX0_isMarked yX0_isMarked, Cond.code yX0_isMarked cX0_isMarked 2 (some .boolean), Cond.fieldLink RX0 22 "DynamicForest$Forest" "marks" "[Z", Cond.methodLink RX0 61 yX0_edgesBetween, Cond.instanceMethod yX0_edgesBetween, Cond.selects RX0 yX0_edgesBetween yX0_edgesBetween, Cond.code yX0_edgesBetween cX0_edgesBetween 3 (some .int), Cond.methodLink RX0 55 yX0_meetingPoint, Cond.instanceMethod yX0_meetingPoint, Cond.selects RX0 yX0_meetingPoint yX0_meetingPoint, Cond.code yX0_meetingPoint cX0_meetingPoint 7 (some .int)]
def wsX0_nearestMarkOf : List Cond := .code yX0_nearestMarkOf cX0_nearestMarkOf 8 (some .int) :: ((wsX0_nearestMarkOf_r1 ++ wsX0_nearestMarkOf_r2) ++ wsX00)
def wsX0_turnTowards : List Cond := .code yX0_turnTowards cX0_turnTowards 7 none :: ([.methodLink RX0 44 yX0_depthOf, .instanceMethod yX0_depthOf, .selects RX0 yX0_depthOf yX0_depthOf, .initialized RX0, .code yX0_depthOf cX0_depthOf 4 (some .int), .methodLink RX0 30 yX0_parentOf, .instanceMethod yX0_parentOf, .selects RX0 yX0_parentOf yX0_parentOf, .code yX0_parentOf cX0_parentOf 2 (some .int), .fieldLink RX0 15 "DynamicForest$Forest" "parents" "[I", .methodLink RX0 26 yX0_has, .instanceMethod yX0_has, .selects RX0 yX0_has yX0_has, .code yX0_has cX0_has 2 (some .boolean), .fieldLink RX0 9 "DynamicForest$Forest" "size" "I", .methodLink RX0 67 yX0_putParent, .instanceMethod yX0_putParent, .selects RX0 yX0_putParent yX0_putParent, .code yX0_putParent cX0_putParent 3 none] ++ wsX00)
def wsX1_init : List Cond := .code yX1_init cX1_init 1 none :: ([.methodLink RX1 3 objectInit, .instanceMethod objectInit, .code objectInit ⟨#[0xb1]⟩ 1 none, .arrayClass .int, .fieldLink RX1 9 "DynamicForest$Path" "vertices" "[I", .fieldLink RX1 15 "DynamicForest$Path" "length" "I"] ++ wsX10)
def wsX1_length : List Cond := .code yX1_length cX1_length 1 (some .int) :: ([.fieldLink RX1 15 "DynamicForest$Path" "length" "I"] ++ wsX10)
def wsX1_hasIndex : List Cond := .code yX1_hasIndex cX1_hasIndex 2 (some .boolean) :: ([.fieldLink RX1 15 "DynamicForest$Path" "length" "I"] ++ wsX10)
def wsX1_vertexAt : List Cond := .code yX1_vertexAt cX1_vertexAt 2 (some .int) :: ([.fieldLink RX1 9 "DynamicForest$Path" "vertices" "[I", .methodLink RX1 19 yX1_hasIndex, .instanceMethod yX1_hasIndex, .selects RX1 yX1_hasIndex yX1_hasIndex, .initialized RX1, .code yX1_hasIndex cX1_hasIndex 2 (some .boolean), .fieldLink RX1 15 "DynamicForest$Path" "length" "I"] ++ wsX10)
def wsX1_append : List Cond := .code yX1_append cX1_append 2 none :: ([.fieldLink RX1 15 "DynamicForest$Path" "length" "I", .fieldLink RX1 9 "DynamicForest$Path" "vertices" "[I"] ++ wsX10)
def wsX1_appendClimb : List Cond := .code yX1_appendClimb cX1_appendClimb 6 none :: ([.methodLink RX1 33 yX1_append, .instanceMethod yX1_append, .selects RX1 yX1_append yX1_append, .initialized RX1, .code yX1_append cX1_append 2 none, .fieldLink RX1 15 "DynamicForest$Path" "length" "I", .fieldLink RX1 9 "DynamicForest$Path" "vertices" "[I", .methodLink RX1 40 yX0_parentOf, .instanceMethod yX0_parentOf, .selects RX0 yX0_parentOf yX0_parentOf, .initialized RX0, .code yX0_parentOf cX0_parentOf 2 (some .int), .fieldLink RX0 15 "DynamicForest$Forest" "parents" "[I", .methodLink RX0 26 yX0_has, .instanceMethod yX0_has, .selects RX0 yX0_has yX0_has, .code yX0_has cX0_has 2 (some .boolean), .fieldLink RX0 9 "DynamicForest$Forest" "size" "I"] ++ wsX10 ++ wsX00)
def wsX1_swap : List Cond := .code yX1_swap cX1_swap 4 none :: ([.fieldLink RX1 9 "DynamicForest$Path" "vertices" "[I", .methodLink RX1 19 yX1_hasIndex, .instanceMethod yX1_hasIndex, .selects RX1 yX1_hasIndex yX1_hasIndex, .initialized RX1, .code yX1_hasIndex cX1_hasIndex 2 (some .boolean), .fieldLink RX1 15 "DynamicForest$Path" "length" "I"] ++ wsX10)
def wsX1_reverseFrom : List Cond := .code yX1_reverseFrom cX1_reverseFrom 4 none :: ([.fieldLink RX1 15 "DynamicForest$Path" "length" "I", .methodLink RX1 44 yX1_swap, .instanceMethod yX1_swap, .selects RX1 yX1_swap yX1_swap, .initialized RX1, .code yX1_swap cX1_swap 4 none, .fieldLink RX1 9 "DynamicForest$Path" "vertices" "[I", .methodLink RX1 19 yX1_hasIndex, .instanceMethod yX1_hasIndex, .selects RX1 yX1_hasIndex yX1_hasIndex, .code yX1_hasIndex cX1_hasIndex 2 (some .boolean)] ++ wsX10)
def wsX1_trace_r1 : List Cond := [Cond.fieldLink RX1 15 "DynamicForest$Path" "length" "I", Cond.methodLink RX1 23 yX0_meetingPoint, Cond.instanceMethod yX0_meetingPoint, Cond.selects RX0 yX0_meetingPoint yX0_meetingPoint, Cond.initialized RX0, Cond.code yX0_meetingPoint cX0_meetingPoint 7 (some .int), Cond.methodLink RX0 44 yX0_depthOf, Cond.instanceMethod yX0_depthOf, Cond.selects RX0 yX0_depthOf yX0_depthOf, Cond.code yX0_depthOf cX0_depthOf 4 (some .int), Cond.methodLink RX0 30 yX0_parentOf, Cond.instanceMethod yX0_parentOf, Cond.selects RX0 yX0_parentOf yX0_parentOf, Cond.code yX0_parentOf cX0_parentOf 2 (some .int), Cond.fieldLink RX0 15 "DynamicForest$Forest" "parents" "[I", Cond.methodLink RX0 26 yX0_has, Cond.instanceMethod yX0_has, Cond.selects RX0 yX0_has yX0_has, Cond.code yX0_has cX0_has 2 (some .boolean), Cond.fieldLink RX0 9 "DynamicForest$Forest" "size" "I", Cond.methodLink RX0 47 yX0_climb, Cond.instanceMethod yX0_climb, Cond.selects RX0 yX0_climb yX0_climb, Cond.code yX0_climb cX0_climb 5 (some .int)]
def wsX1_trace_r2 : List Cond := [Cond.methodLink RX1 29 yX1_appendClimb, Cond.instanceMethod yX1_appendClimb, Cond.selects RX1 yX1_appendClimb yX1_appendClimb, Cond.initialized RX1, Cond.code yX1_appendClimb cX1_appendClimb 6 none, Cond.methodLink RX1 33 yX1_append, Cond.instanceMethod yX1_append, Cond.selects RX1 yX1_append yX1_append, Cond.code yX1_append cX1_append 2 none, Cond.fieldLink RX1 9 "DynamicForest$Path" "vertices" "[I", Cond.methodLink RX1 40 yX0_parentOf, Cond.methodLink RX1 37 yX1_reverseFrom, Cond.instanceMethod yX1_reverseFrom, Cond.selects RX1 yX1_reverseFrom yX1_reverseFrom, Cond.code yX1_reverseFrom cX1_reverseFrom 4 none, Cond.methodLink RX1 44 yX1_swap, Cond.instanceMethod yX1_swap, Cond.selects RX1 yX1_swap yX1_swap, Cond.code yX1_swap cX1_swap 4 none, Cond.methodLink RX1 19 yX1_hasIndex, Cond.instanceMethod yX1_hasIndex, Cond.selects RX1 yX1_hasIndex yX1_hasIndex, Cond.code yX1_hasIndex cX1_hasIndex 2 (some .boolean)]
def wsX1_trace : List Cond := .code yX1_trace cX1_trace 6 none :: ((wsX1_trace_r1 ++ wsX1_trace_r2) ++ wsX10 ++ wsX00)
def wsX2_init_r1 : List Cond := [Cond.methodLink RX2 1 objectInit, Cond.instanceMethod objectInit, Cond.code objectInit ⟨#[0xb1]⟩ 1 none, Cond.classLink RX2 7 RX0, Cond.instantiable RX0 4, Cond.initialized RX0, Cond.fieldLink RX2 10 "DynamicForest" "forest" "LDynamicForest$Forest;", Cond.fieldLink RX2 16 "DynamicForest" "firstSlot" "LDynamicForest$Forest;", Cond.fieldLink RX2 19 "DynamicForest" "secondSlot" "LDynamicForest$Forest;", Cond.classLink RX2 22 RX1, Cond.instantiable RX1 2, Cond.initialized RX1, Cond.fieldLink RX2 25 "DynamicForest" "path" "LDynamicForest$Path;", Cond.methodLink RX2 9 yX0_init, Cond.instanceMethod yX0_init, Cond.code yX0_init cX0_init 1 none, Cond.methodLink RX0 3 objectInit, Cond.fieldLink RX0 9 "DynamicForest$Forest" "size" "I", Cond.arrayClass .int, Cond.fieldLink RX0 15 "DynamicForest$Forest" "parents" "[I", Cond.fieldLink RX0 19 "DynamicForest$Forest" "values" "[I", Cond.arrayClass .boolean, Cond.fieldLink RX0 22 "DynamicForest$Forest" "marks" "[Z", Cond.methodLink RX2 24 yX1_init]
def wsX2_init_r2 : List Cond := [Cond.instanceMethod yX1_init, Cond.code yX1_init cX1_init 1 none, Cond.methodLink RX1 3 objectInit, Cond.fieldLink RX1 9 "DynamicForest$Path" "vertices" "[I", Cond.fieldLink RX1 15 "DynamicForest$Path" "length" "I", Cond.methodLink RX2 29 yX0_startAnew, Cond.instanceMethod yX0_startAnew, Cond.selects RX0 yX0_startAnew yX0_startAnew, Cond.code yX0_startAnew cX0_startAnew 3 none]
def wsX2_init : List Cond := .code yX2_init cX2_init 1 none :: ((wsX2_init_r1 ++ wsX2_init_r2) ++ wsX00 ++ wsX20 ++ wsX10)
def wsX2_reset : List Cond := .code yX2_reset cX2_reset 3 (some .int) :: ([.constant RX2 33 (-100000002), .fieldLink RX2 10 "DynamicForest" "forest" "LDynamicForest$Forest;", .methodLink RX2 34 yX0_size, .instanceMethod yX0_size, .selects RX0 yX0_size yX0_size, .initialized RX0, .code yX0_size cX0_size 1 (some .int), .fieldLink RX0 9 "DynamicForest$Forest" "size" "I", .methodLink RX2 29 yX0_startAnew, .instanceMethod yX0_startAnew, .selects RX0 yX0_startAnew yX0_startAnew, .code yX0_startAnew cX0_startAnew 3 none, .fieldLink RX0 15 "DynamicForest$Forest" "parents" "[I", .fieldLink RX0 19 "DynamicForest$Forest" "values" "[I", .fieldLink RX0 22 "DynamicForest$Forest" "marks" "[Z"] ++ wsX20 ++ wsX00)
def wsX2_link_r1 : List Cond := [Cond.fieldLink RX2 10 "DynamicForest" "forest" "LDynamicForest$Forest;", Cond.constant RX2 42 (-100000001), Cond.constant RX2 46 (-100000003), Cond.constant RX2 51 (-100000008), Cond.methodLink RX2 38 yX0_has, Cond.instanceMethod yX0_has, Cond.selects RX0 yX0_has yX0_has, Cond.initialized RX0, Cond.code yX0_has cX0_has 2 (some .boolean), Cond.fieldLink RX0 9 "DynamicForest$Forest" "size" "I", Cond.methodLink RX2 43 yX0_isRoot, Cond.instanceMethod yX0_isRoot, Cond.selects RX0 yX0_isRoot yX0_isRoot, Cond.code yX0_isRoot cX0_isRoot 2 (some .boolean), Cond.methodLink RX0 30 yX0_parentOf, Cond.instanceMethod yX0_parentOf, Cond.selects RX0 yX0_parentOf yX0_parentOf, Cond.code yX0_parentOf cX0_parentOf 2 (some .int), Cond.fieldLink RX0 15 "DynamicForest$Forest" "parents" "[I", Cond.methodLink RX0 26 yX0_has, Cond.methodLink RX2 47 yX0_rootOf, Cond.instanceMethod yX0_rootOf, Cond.selects RX0 yX0_rootOf yX0_rootOf, Cond.code yX0_rootOf cX0_rootOf 2 (some .int)]
def wsX2_link_r2 : List Cond := [Cond.methodLink RX0 44 yX0_depthOf, Cond.instanceMethod yX0_depthOf, Cond.selects RX0 yX0_depthOf yX0_depthOf, Cond.code yX0_depthOf cX0_depthOf 4 (some .int), Cond.methodLink RX0 47 yX0_climb, Cond.instanceMethod yX0_climb, Cond.selects RX0 yX0_climb yX0_climb, Cond.code yX0_climb cX0_climb 5 (some .int), Cond.methodLink RX2 52 yX0_putParent, Cond.instanceMethod yX0_putParent, Cond.selects RX0 yX0_putParent yX0_putParent, Cond.code yX0_putParent cX0_putParent 3 none, Cond.methodLink RX2 56 yX0_countBelow, Cond.instanceMethod yX0_countBelow, Cond.selects RX0 yX0_countBelow yX0_countBelow, Cond.code yX0_countBelow cX0_countBelow 4 (some .int), Cond.methodLink RX0 51 yX0_isBelow, Cond.instanceMethod yX0_isBelow, Cond.selects RX0 yX0_isBelow yX0_isBelow, Cond.code yX0_isBelow cX0_isBelow 4 (some .boolean)]
def wsX2_link : List Cond := .code yX2_link cX2_link 3 (some .int) :: ((wsX2_link_r1 ++ wsX2_link_r2) ++ wsX20 ++ wsX00)
def wsX2_cut : List Cond := .code yX2_cut cX2_cut 3 (some .int) :: ([.fieldLink RX2 10 "DynamicForest" "forest" "LDynamicForest$Forest;", .constant RX2 42 (-100000001), .constant RX2 59 (-100000007), .methodLink RX2 38 yX0_has, .instanceMethod yX0_has, .selects RX0 yX0_has yX0_has, .initialized RX0, .code yX0_has cX0_has 2 (some .boolean), .fieldLink RX0 9 "DynamicForest$Forest" "size" "I", .methodLink RX2 43 yX0_isRoot, .instanceMethod yX0_isRoot, .selects RX0 yX0_isRoot yX0_isRoot, .code yX0_isRoot cX0_isRoot 2 (some .boolean), .methodLink RX0 30 yX0_parentOf, .instanceMethod yX0_parentOf, .selects RX0 yX0_parentOf yX0_parentOf, .code yX0_parentOf cX0_parentOf 2 (some .int), .fieldLink RX0 15 "DynamicForest$Forest" "parents" "[I", .methodLink RX0 26 yX0_has, .methodLink RX2 60 yX0_parentOf, .methodLink RX2 52 yX0_putParent, .instanceMethod yX0_putParent, .selects RX0 yX0_putParent yX0_putParent, .code yX0_putParent cX0_putParent 3 none] ++ wsX20 ++ wsX00)
def wsX2_reroot_r1 : List Cond := [Cond.fieldLink RX2 10 "DynamicForest" "forest" "LDynamicForest$Forest;", Cond.constant RX2 42 (-100000001), Cond.methodLink RX2 38 yX0_has, Cond.instanceMethod yX0_has, Cond.selects RX0 yX0_has yX0_has, Cond.initialized RX0, Cond.code yX0_has cX0_has 2 (some .boolean), Cond.fieldLink RX0 9 "DynamicForest$Forest" "size" "I", Cond.methodLink RX2 47 yX0_rootOf, Cond.instanceMethod yX0_rootOf, Cond.selects RX0 yX0_rootOf yX0_rootOf, Cond.code yX0_rootOf cX0_rootOf 2 (some .int), Cond.methodLink RX0 44 yX0_depthOf, Cond.instanceMethod yX0_depthOf, Cond.selects RX0 yX0_depthOf yX0_depthOf, Cond.code yX0_depthOf cX0_depthOf 4 (some .int), Cond.methodLink RX0 30 yX0_parentOf, Cond.instanceMethod yX0_parentOf, Cond.selects RX0 yX0_parentOf yX0_parentOf, Cond.code yX0_parentOf cX0_parentOf 2 (some .int), Cond.fieldLink RX0 15 "DynamicForest$Forest" "parents" "[I", Cond.methodLink RX0 26 yX0_has, Cond.methodLink RX0 47 yX0_climb, Cond.instanceMethod yX0_climb]
def wsX2_reroot_r2 : List Cond := [Cond.selects RX0 yX0_climb yX0_climb, Cond.code yX0_climb cX0_climb 5 (some .int), Cond.methodLink RX2 63 yX0_turnTowards, Cond.instanceMethod yX0_turnTowards, Cond.selects RX0 yX0_turnTowards yX0_turnTowards, Cond.code yX0_turnTowards cX0_turnTowards 7 none, Cond.methodLink RX0 67 yX0_putParent, Cond.instanceMethod yX0_putParent, Cond.selects RX0 yX0_putParent yX0_putParent, Cond.code yX0_putParent cX0_putParent 3 none]
def wsX2_reroot : List Cond := .code yX2_reroot cX2_reroot 3 (some .int) :: ((wsX2_reroot_r1 ++ wsX2_reroot_r2) ++ wsX20 ++ wsX00)
def wsX2_vertexCount : List Cond := .code yX2_vertexCount cX2_vertexCount 1 (some .int) :: ([.fieldLink RX2 10 "DynamicForest" "forest" "LDynamicForest$Forest;", .methodLink RX2 34 yX0_size, .instanceMethod yX0_size, .selects RX0 yX0_size yX0_size, .initialized RX0, .code yX0_size cX0_size 1 (some .int), .fieldLink RX0 9 "DynamicForest$Forest" "size" "I"] ++ wsX20 ++ wsX00)
def wsX2_treeCount : List Cond := .code yX2_treeCount cX2_treeCount 1 (some .int) :: ([.fieldLink RX2 10 "DynamicForest" "forest" "LDynamicForest$Forest;", .methodLink RX2 66 yX0_countRoots, .instanceMethod yX0_countRoots, .selects RX0 yX0_countRoots yX0_countRoots, .initialized RX0, .code yX0_countRoots cX0_countRoots 3 (some .int), .fieldLink RX0 9 "DynamicForest$Forest" "size" "I", .methodLink RX0 41 yX0_isRoot, .instanceMethod yX0_isRoot, .selects RX0 yX0_isRoot yX0_isRoot, .code yX0_isRoot cX0_isRoot 2 (some .boolean), .methodLink RX0 30 yX0_parentOf, .instanceMethod yX0_parentOf, .selects RX0 yX0_parentOf yX0_parentOf, .code yX0_parentOf cX0_parentOf 2 (some .int), .fieldLink RX0 15 "DynamicForest$Forest" "parents" "[I", .methodLink RX0 26 yX0_has, .instanceMethod yX0_has, .selects RX0 yX0_has yX0_has, .code yX0_has cX0_has 2 (some .boolean)] ++ wsX20 ++ wsX00)
def wsX2_parent : List Cond := .code yX2_parent cX2_parent 2 (some .int) :: ([.fieldLink RX2 10 "DynamicForest" "forest" "LDynamicForest$Forest;", .constant RX2 42 (-100000001), .constant RX2 59 (-100000007), .methodLink RX2 38 yX0_has, .instanceMethod yX0_has, .selects RX0 yX0_has yX0_has, .initialized RX0, .code yX0_has cX0_has 2 (some .boolean), .fieldLink RX0 9 "DynamicForest$Forest" "size" "I", .methodLink RX2 43 yX0_isRoot, .instanceMethod yX0_isRoot, .selects RX0 yX0_isRoot yX0_isRoot, .code yX0_isRoot cX0_isRoot 2 (some .boolean), .methodLink RX0 30 yX0_parentOf, .instanceMethod yX0_parentOf, .selects RX0 yX0_parentOf yX0_parentOf, .code yX0_parentOf cX0_parentOf 2 (some .int), .fieldLink RX0 15 "DynamicForest$Forest" "parents" "[I", .methodLink RX0 26 yX0_has, .methodLink RX2 60 yX0_parentOf] ++ wsX20 ++ wsX00)
def wsX2_root_r1 : List Cond := [Cond.fieldLink RX2 10 "DynamicForest" "forest" "LDynamicForest$Forest;", Cond.constant RX2 42 (-100000001), Cond.methodLink RX2 38 yX0_has, Cond.instanceMethod yX0_has, Cond.selects RX0 yX0_has yX0_has, Cond.initialized RX0, Cond.code yX0_has cX0_has 2 (some .boolean), Cond.fieldLink RX0 9 "DynamicForest$Forest" "size" "I", Cond.methodLink RX2 47 yX0_rootOf, Cond.instanceMethod yX0_rootOf, Cond.selects RX0 yX0_rootOf yX0_rootOf, Cond.code yX0_rootOf cX0_rootOf 2 (some .int), Cond.methodLink RX0 44 yX0_depthOf, Cond.instanceMethod yX0_depthOf, Cond.selects RX0 yX0_depthOf yX0_depthOf, Cond.code yX0_depthOf cX0_depthOf 4 (some .int), Cond.methodLink RX0 30 yX0_parentOf, Cond.instanceMethod yX0_parentOf, Cond.selects RX0 yX0_parentOf yX0_parentOf, Cond.code yX0_parentOf cX0_parentOf 2 (some .int), Cond.fieldLink RX0 15 "DynamicForest$Forest" "parents" "[I", Cond.methodLink RX0 26 yX0_has, Cond.methodLink RX0 47 yX0_climb, Cond.instanceMethod yX0_climb]
def wsX2_root_r2 : List Cond := [Cond.selects RX0 yX0_climb yX0_climb, Cond.code yX0_climb cX0_climb 5 (some .int)]
def wsX2_root : List Cond := .code yX2_root cX2_root 2 (some .int) :: ((wsX2_root_r1 ++ wsX2_root_r2) ++ wsX20 ++ wsX00)
def wsX2_depth : List Cond := .code yX2_depth cX2_depth 2 (some .int) :: ([.fieldLink RX2 10 "DynamicForest" "forest" "LDynamicForest$Forest;", .constant RX2 42 (-100000001), .methodLink RX2 38 yX0_has, .instanceMethod yX0_has, .selects RX0 yX0_has yX0_has, .initialized RX0, .code yX0_has cX0_has 2 (some .boolean), .fieldLink RX0 9 "DynamicForest$Forest" "size" "I", .methodLink RX2 69 yX0_depthOf, .instanceMethod yX0_depthOf, .selects RX0 yX0_depthOf yX0_depthOf, .code yX0_depthOf cX0_depthOf 4 (some .int), .methodLink RX0 30 yX0_parentOf, .instanceMethod yX0_parentOf, .selects RX0 yX0_parentOf yX0_parentOf, .code yX0_parentOf cX0_parentOf 2 (some .int), .fieldLink RX0 15 "DynamicForest$Forest" "parents" "[I", .methodLink RX0 26 yX0_has] ++ wsX20 ++ wsX00)
def wsX2_connected_r1 : List Cond := [Cond.fieldLink RX2 10 "DynamicForest" "forest" "LDynamicForest$Forest;", Cond.constant RX2 42 (-100000001), Cond.methodLink RX2 38 yX0_has, Cond.instanceMethod yX0_has, Cond.selects RX0 yX0_has yX0_has, Cond.initialized RX0, Cond.code yX0_has cX0_has 2 (some .boolean), Cond.fieldLink RX0 9 "DynamicForest$Forest" "size" "I", Cond.methodLink RX2 47 yX0_rootOf, Cond.instanceMethod yX0_rootOf, Cond.selects RX0 yX0_rootOf yX0_rootOf, Cond.code yX0_rootOf cX0_rootOf 2 (some .int), Cond.methodLink RX0 44 yX0_depthOf, Cond.instanceMethod yX0_depthOf, Cond.selects RX0 yX0_depthOf yX0_depthOf, Cond.code yX0_depthOf cX0_depthOf 4 (some .int), Cond.methodLink RX0 30 yX0_parentOf, Cond.instanceMethod yX0_parentOf, Cond.selects RX0 yX0_parentOf yX0_parentOf, Cond.code yX0_parentOf cX0_parentOf 2 (some .int), Cond.fieldLink RX0 15 "DynamicForest$Forest" "parents" "[I", Cond.methodLink RX0 26 yX0_has, Cond.methodLink RX0 47 yX0_climb, Cond.instanceMethod yX0_climb]
def wsX2_connected_r2 : List Cond := [Cond.selects RX0 yX0_climb yX0_climb, Cond.code yX0_climb cX0_climb 5 (some .int)]
def wsX2_connected : List Cond := .code yX2_connected cX2_connected 3 (some .int) :: ((wsX2_connected_r1 ++ wsX2_connected_r2) ++ wsX20 ++ wsX00)
def wsX2_pathError_r1 : List Cond := [Cond.fieldLink RX2 10 "DynamicForest" "forest" "LDynamicForest$Forest;", Cond.constant RX2 42 (-100000001), Cond.constant RX2 138 (-100000004), Cond.methodLink RX2 38 yX0_has, Cond.instanceMethod yX0_has, Cond.selects RX0 yX0_has yX0_has, Cond.initialized RX0, Cond.code yX0_has cX0_has 2 (some .boolean), Cond.fieldLink RX0 9 "DynamicForest$Forest" "size" "I", Cond.methodLink RX2 47 yX0_rootOf, Cond.instanceMethod yX0_rootOf, Cond.selects RX0 yX0_rootOf yX0_rootOf, Cond.code yX0_rootOf cX0_rootOf 2 (some .int), Cond.methodLink RX0 44 yX0_depthOf, Cond.instanceMethod yX0_depthOf, Cond.selects RX0 yX0_depthOf yX0_depthOf, Cond.code yX0_depthOf cX0_depthOf 4 (some .int), Cond.methodLink RX0 30 yX0_parentOf, Cond.instanceMethod yX0_parentOf, Cond.selects RX0 yX0_parentOf yX0_parentOf, Cond.code yX0_parentOf cX0_parentOf 2 (some .int), Cond.fieldLink RX0 15 "DynamicForest$Forest" "parents" "[I", Cond.methodLink RX0 26 yX0_has, Cond.methodLink RX0 47 yX0_climb]
def wsX2_pathError_r2 : List Cond := [Cond.instanceMethod yX0_climb, Cond.selects RX0 yX0_climb yX0_climb, Cond.code yX0_climb cX0_climb 5 (some .int)]
def wsX2_pathError : List Cond := .code yX2_pathError cX2_pathError 3 (some .int) :: ((wsX2_pathError_r1 ++ wsX2_pathError_r2) ++ wsX20 ++ wsX00)
def wsX2_commonAncestor_r1 : List Cond := [Cond.fieldLink RX2 10 "DynamicForest" "forest" "LDynamicForest$Forest;", Cond.methodLink RX2 72 yX2_pathError, Cond.instanceMethod yX2_pathError, Cond.selects RX2 yX2_pathError yX2_pathError, Cond.initialized RX2, Cond.code yX2_pathError cX2_pathError 3 (some .int), Cond.constant RX2 42 (-100000001), Cond.constant RX2 138 (-100000004), Cond.methodLink RX2 38 yX0_has, Cond.instanceMethod yX0_has, Cond.selects RX0 yX0_has yX0_has, Cond.initialized RX0, Cond.code yX0_has cX0_has 2 (some .boolean), Cond.fieldLink RX0 9 "DynamicForest$Forest" "size" "I", Cond.methodLink RX2 47 yX0_rootOf, Cond.instanceMethod yX0_rootOf, Cond.selects RX0 yX0_rootOf yX0_rootOf, Cond.code yX0_rootOf cX0_rootOf 2 (some .int), Cond.methodLink RX0 44 yX0_depthOf, Cond.instanceMethod yX0_depthOf, Cond.selects RX0 yX0_depthOf yX0_depthOf, Cond.code yX0_depthOf cX0_depthOf 4 (some .int), Cond.methodLink RX0 30 yX0_parentOf, Cond.instanceMethod yX0_parentOf]
def wsX2_commonAncestor_r2 : List Cond := [Cond.selects RX0 yX0_parentOf yX0_parentOf, Cond.code yX0_parentOf cX0_parentOf 2 (some .int), Cond.fieldLink RX0 15 "DynamicForest$Forest" "parents" "[I", Cond.methodLink RX0 26 yX0_has, Cond.methodLink RX0 47 yX0_climb, Cond.instanceMethod yX0_climb, Cond.selects RX0 yX0_climb yX0_climb, Cond.code yX0_climb cX0_climb 5 (some .int), Cond.methodLink RX2 76 yX0_meetingPoint, Cond.instanceMethod yX0_meetingPoint, Cond.selects RX0 yX0_meetingPoint yX0_meetingPoint, Cond.code yX0_meetingPoint cX0_meetingPoint 7 (some .int)]
def wsX2_commonAncestor : List Cond := .code yX2_commonAncestor cX2_commonAncestor 4 (some .int) :: ((wsX2_commonAncestor_r1 ++ wsX2_commonAncestor_r2) ++ wsX20 ++ wsX00)
def wsX2_distance_r1 : List Cond := [Cond.fieldLink RX2 10 "DynamicForest" "forest" "LDynamicForest$Forest;", Cond.methodLink RX2 72 yX2_pathError, Cond.instanceMethod yX2_pathError, Cond.selects RX2 yX2_pathError yX2_pathError, Cond.initialized RX2, Cond.code yX2_pathError cX2_pathError 3 (some .int), Cond.constant RX2 42 (-100000001), Cond.constant RX2 138 (-100000004), Cond.methodLink RX2 38 yX0_has, Cond.instanceMethod yX0_has, Cond.selects RX0 yX0_has yX0_has, Cond.initialized RX0, Cond.code yX0_has cX0_has 2 (some .boolean), Cond.fieldLink RX0 9 "DynamicForest$Forest" "size" "I", Cond.methodLink RX2 47 yX0_rootOf, Cond.instanceMethod yX0_rootOf, Cond.selects RX0 yX0_rootOf yX0_rootOf, Cond.code yX0_rootOf cX0_rootOf 2 (some .int), Cond.methodLink RX0 44 yX0_depthOf, Cond.instanceMethod yX0_depthOf, Cond.selects RX0 yX0_depthOf yX0_depthOf, Cond.code yX0_depthOf cX0_depthOf 4 (some .int), Cond.methodLink RX0 30 yX0_parentOf, Cond.instanceMethod yX0_parentOf]
def wsX2_distance_r2 : List Cond := [Cond.selects RX0 yX0_parentOf yX0_parentOf, Cond.code yX0_parentOf cX0_parentOf 2 (some .int), Cond.fieldLink RX0 15 "DynamicForest$Forest" "parents" "[I", Cond.methodLink RX0 26 yX0_has, Cond.methodLink RX0 47 yX0_climb, Cond.instanceMethod yX0_climb, Cond.selects RX0 yX0_climb yX0_climb, Cond.code yX0_climb cX0_climb 5 (some .int), Cond.methodLink RX2 79 yX0_edgesBetween, Cond.instanceMethod yX0_edgesBetween, Cond.selects RX0 yX0_edgesBetween yX0_edgesBetween, Cond.code yX0_edgesBetween cX0_edgesBetween 3 (some .int), Cond.methodLink RX0 55 yX0_meetingPoint, Cond.instanceMethod yX0_meetingPoint, Cond.selects RX0 yX0_meetingPoint yX0_meetingPoint, Cond.code yX0_meetingPoint cX0_meetingPoint 7 (some .int)]
def wsX2_distance : List Cond := .code yX2_distance cX2_distance 4 (some .int) :: ((wsX2_distance_r1 ++ wsX2_distance_r2) ++ wsX20 ++ wsX00)
def wsX2_tracePath_r1 : List Cond := [Cond.fieldLink RX2 25 "DynamicForest" "path" "LDynamicForest$Path;", Cond.fieldLink RX2 10 "DynamicForest" "forest" "LDynamicForest$Forest;", Cond.methodLink RX2 72 yX2_pathError, Cond.instanceMethod yX2_pathError, Cond.selects RX2 yX2_pathError yX2_pathError, Cond.initialized RX2, Cond.code yX2_pathError cX2_pathError 3 (some .int), Cond.constant RX2 42 (-100000001), Cond.constant RX2 138 (-100000004), Cond.methodLink RX2 38 yX0_has, Cond.instanceMethod yX0_has, Cond.selects RX0 yX0_has yX0_has, Cond.initialized RX0, Cond.code yX0_has cX0_has 2 (some .boolean), Cond.fieldLink RX0 9 "DynamicForest$Forest" "size" "I", Cond.methodLink RX2 47 yX0_rootOf, Cond.instanceMethod yX0_rootOf, Cond.selects RX0 yX0_rootOf yX0_rootOf, Cond.code yX0_rootOf cX0_rootOf 2 (some .int), Cond.methodLink RX0 44 yX0_depthOf, Cond.instanceMethod yX0_depthOf, Cond.selects RX0 yX0_depthOf yX0_depthOf, Cond.code yX0_depthOf cX0_depthOf 4 (some .int), Cond.methodLink RX0 30 yX0_parentOf]
def wsX2_tracePath_r2 : List Cond := [Cond.instanceMethod yX0_parentOf, Cond.selects RX0 yX0_parentOf yX0_parentOf, Cond.code yX0_parentOf cX0_parentOf 2 (some .int), Cond.fieldLink RX0 15 "DynamicForest$Forest" "parents" "[I", Cond.methodLink RX0 26 yX0_has, Cond.methodLink RX0 47 yX0_climb, Cond.instanceMethod yX0_climb, Cond.selects RX0 yX0_climb yX0_climb, Cond.code yX0_climb cX0_climb 5 (some .int), Cond.methodLink RX2 139 yX1_trace, Cond.instanceMethod yX1_trace, Cond.selects RX1 yX1_trace yX1_trace, Cond.initialized RX1, Cond.code yX1_trace cX1_trace 6 none, Cond.fieldLink RX1 15 "DynamicForest$Path" "length" "I", Cond.methodLink RX1 23 yX0_meetingPoint, Cond.instanceMethod yX0_meetingPoint, Cond.selects RX0 yX0_meetingPoint yX0_meetingPoint, Cond.code yX0_meetingPoint cX0_meetingPoint 7 (some .int), Cond.methodLink RX1 29 yX1_appendClimb, Cond.instanceMethod yX1_appendClimb, Cond.selects RX1 yX1_appendClimb yX1_appendClimb, Cond.code yX1_appendClimb cX1_appendClimb 6 none, Cond.methodLink RX1 33 yX1_append]
def wsX2_tracePath_r3 : List Cond := [Cond.instanceMethod yX1_append, Cond.selects RX1 yX1_append yX1_append, Cond.code yX1_append cX1_append 2 none, Cond.fieldLink RX1 9 "DynamicForest$Path" "vertices" "[I", Cond.methodLink RX1 40 yX0_parentOf, Cond.methodLink RX1 37 yX1_reverseFrom, Cond.instanceMethod yX1_reverseFrom, Cond.selects RX1 yX1_reverseFrom yX1_reverseFrom, Cond.code yX1_reverseFrom cX1_reverseFrom 4 none, Cond.methodLink RX1 44 yX1_swap, Cond.instanceMethod yX1_swap, Cond.selects RX1 yX1_swap yX1_swap, Cond.code yX1_swap cX1_swap 4 none, Cond.methodLink RX1 19 yX1_hasIndex, Cond.instanceMethod yX1_hasIndex, Cond.selects RX1 yX1_hasIndex yX1_hasIndex, Cond.code yX1_hasIndex cX1_hasIndex 2 (some .boolean)]
def wsX2_tracePath : List Cond := .code yX2_tracePath cX2_tracePath 4 (some .int) :: ((wsX2_tracePath_r1 ++ (wsX2_tracePath_r2 ++ wsX2_tracePath_r3)) ++ wsX20 ++ wsX00 ++ wsX10)
def wsX2_pathVertex_r1 : List Cond := [Cond.fieldLink RX2 25 "DynamicForest" "path" "LDynamicForest$Path;", Cond.constant RX2 59 (-100000007), Cond.methodLink RX2 82 yX2_tracePath, Cond.instanceMethod yX2_tracePath, Cond.selects RX2 yX2_tracePath yX2_tracePath, Cond.initialized RX2, Cond.code yX2_tracePath cX2_tracePath 4 (some .int), Cond.fieldLink RX2 10 "DynamicForest" "forest" "LDynamicForest$Forest;", Cond.methodLink RX2 72 yX2_pathError, Cond.instanceMethod yX2_pathError, Cond.selects RX2 yX2_pathError yX2_pathError, Cond.code yX2_pathError cX2_pathError 3 (some .int), Cond.constant RX2 42 (-100000001), Cond.constant RX2 138 (-100000004), Cond.methodLink RX2 38 yX0_has, Cond.instanceMethod yX0_has, Cond.selects RX0 yX0_has yX0_has, Cond.initialized RX0, Cond.code yX0_has cX0_has 2 (some .boolean), Cond.fieldLink RX0 9 "DynamicForest$Forest" "size" "I", Cond.methodLink RX2 47 yX0_rootOf, Cond.instanceMethod yX0_rootOf, Cond.selects RX0 yX0_rootOf yX0_rootOf, Cond.code yX0_rootOf cX0_rootOf 2 (some .int)]
def wsX2_pathVertex_r2 : List Cond := [Cond.methodLink RX0 44 yX0_depthOf, Cond.instanceMethod yX0_depthOf, Cond.selects RX0 yX0_depthOf yX0_depthOf, Cond.code yX0_depthOf cX0_depthOf 4 (some .int), Cond.methodLink RX0 30 yX0_parentOf, Cond.instanceMethod yX0_parentOf, Cond.selects RX0 yX0_parentOf yX0_parentOf, Cond.code yX0_parentOf cX0_parentOf 2 (some .int), Cond.fieldLink RX0 15 "DynamicForest$Forest" "parents" "[I", Cond.methodLink RX0 26 yX0_has, Cond.methodLink RX0 47 yX0_climb, Cond.instanceMethod yX0_climb, Cond.selects RX0 yX0_climb yX0_climb, Cond.code yX0_climb cX0_climb 5 (some .int), Cond.methodLink RX2 139 yX1_trace, Cond.instanceMethod yX1_trace, Cond.selects RX1 yX1_trace yX1_trace, Cond.initialized RX1, Cond.code yX1_trace cX1_trace 6 none, Cond.fieldLink RX1 15 "DynamicForest$Path" "length" "I", Cond.methodLink RX1 23 yX0_meetingPoint, Cond.instanceMethod yX0_meetingPoint, Cond.selects RX0 yX0_meetingPoint yX0_meetingPoint, Cond.code yX0_meetingPoint cX0_meetingPoint 7 (some .int)]
def wsX2_pathVertex_r3 : List Cond := [Cond.methodLink RX1 29 yX1_appendClimb, Cond.instanceMethod yX1_appendClimb, Cond.selects RX1 yX1_appendClimb yX1_appendClimb, Cond.code yX1_appendClimb cX1_appendClimb 6 none, Cond.methodLink RX1 33 yX1_append, Cond.instanceMethod yX1_append, Cond.selects RX1 yX1_append yX1_append, Cond.code yX1_append cX1_append 2 none, Cond.fieldLink RX1 9 "DynamicForest$Path" "vertices" "[I", Cond.methodLink RX1 40 yX0_parentOf, Cond.methodLink RX1 37 yX1_reverseFrom, Cond.instanceMethod yX1_reverseFrom, Cond.selects RX1 yX1_reverseFrom yX1_reverseFrom, Cond.code yX1_reverseFrom cX1_reverseFrom 4 none, Cond.methodLink RX1 44 yX1_swap, Cond.instanceMethod yX1_swap, Cond.selects RX1 yX1_swap yX1_swap, Cond.code yX1_swap cX1_swap 4 none, Cond.methodLink RX1 19 yX1_hasIndex, Cond.instanceMethod yX1_hasIndex, Cond.selects RX1 yX1_hasIndex yX1_hasIndex, Cond.code yX1_hasIndex cX1_hasIndex 2 (some .boolean), Cond.methodLink RX2 85 yX1_hasIndex, Cond.methodLink RX2 88 yX1_vertexAt]
def wsX2_pathVertex_r4 : List Cond := [Cond.instanceMethod yX1_vertexAt, Cond.selects RX1 yX1_vertexAt yX1_vertexAt, Cond.code yX1_vertexAt cX1_vertexAt 2 (some .int)]
def wsX2_pathVertex : List Cond := .code yX2_pathVertex cX2_pathVertex 5 (some .int) :: ((wsX2_pathVertex_r1 ++ (wsX2_pathVertex_r2 ++ (wsX2_pathVertex_r3 ++ wsX2_pathVertex_r4))) ++ wsX20 ++ wsX00 ++ wsX10)
def wsX2_pathSum_r1 : List Cond := [Cond.fieldLink RX2 25 "DynamicForest" "path" "LDynamicForest$Path;", Cond.fieldLink RX2 10 "DynamicForest" "forest" "LDynamicForest$Forest;", Cond.methodLink RX2 82 yX2_tracePath, Cond.instanceMethod yX2_tracePath, Cond.selects RX2 yX2_tracePath yX2_tracePath, Cond.initialized RX2, Cond.code yX2_tracePath cX2_tracePath 4 (some .int), Cond.methodLink RX2 72 yX2_pathError, Cond.instanceMethod yX2_pathError, Cond.selects RX2 yX2_pathError yX2_pathError, Cond.code yX2_pathError cX2_pathError 3 (some .int), Cond.constant RX2 42 (-100000001), Cond.constant RX2 138 (-100000004), Cond.methodLink RX2 38 yX0_has, Cond.instanceMethod yX0_has, Cond.selects RX0 yX0_has yX0_has, Cond.initialized RX0, Cond.code yX0_has cX0_has 2 (some .boolean), Cond.fieldLink RX0 9 "DynamicForest$Forest" "size" "I", Cond.methodLink RX2 47 yX0_rootOf, Cond.instanceMethod yX0_rootOf, Cond.selects RX0 yX0_rootOf yX0_rootOf, Cond.code yX0_rootOf cX0_rootOf 2 (some .int), Cond.methodLink RX0 44 yX0_depthOf]
def wsX2_pathSum_r2 : List Cond := [Cond.instanceMethod yX0_depthOf, Cond.selects RX0 yX0_depthOf yX0_depthOf, Cond.code yX0_depthOf cX0_depthOf 4 (some .int), Cond.methodLink RX0 30 yX0_parentOf, Cond.instanceMethod yX0_parentOf, Cond.selects RX0 yX0_parentOf yX0_parentOf, Cond.code yX0_parentOf cX0_parentOf 2 (some .int), Cond.fieldLink RX0 15 "DynamicForest$Forest" "parents" "[I", Cond.methodLink RX0 26 yX0_has, Cond.methodLink RX0 47 yX0_climb, Cond.instanceMethod yX0_climb, Cond.selects RX0 yX0_climb yX0_climb, Cond.code yX0_climb cX0_climb 5 (some .int), Cond.methodLink RX2 139 yX1_trace, Cond.instanceMethod yX1_trace, Cond.selects RX1 yX1_trace yX1_trace, Cond.initialized RX1, Cond.code yX1_trace cX1_trace 6 none, Cond.fieldLink RX1 15 "DynamicForest$Path" "length" "I", Cond.methodLink RX1 23 yX0_meetingPoint, Cond.instanceMethod yX0_meetingPoint, Cond.selects RX0 yX0_meetingPoint yX0_meetingPoint, Cond.code yX0_meetingPoint cX0_meetingPoint 7 (some .int), Cond.methodLink RX1 29 yX1_appendClimb]
def wsX2_pathSum_r3 : List Cond := [Cond.instanceMethod yX1_appendClimb, Cond.selects RX1 yX1_appendClimb yX1_appendClimb, Cond.code yX1_appendClimb cX1_appendClimb 6 none, Cond.methodLink RX1 33 yX1_append, Cond.instanceMethod yX1_append, Cond.selects RX1 yX1_append yX1_append, Cond.code yX1_append cX1_append 2 none, Cond.fieldLink RX1 9 "DynamicForest$Path" "vertices" "[I", Cond.methodLink RX1 40 yX0_parentOf, Cond.methodLink RX1 37 yX1_reverseFrom, Cond.instanceMethod yX1_reverseFrom, Cond.selects RX1 yX1_reverseFrom yX1_reverseFrom, Cond.code yX1_reverseFrom cX1_reverseFrom 4 none, Cond.methodLink RX1 44 yX1_swap, Cond.instanceMethod yX1_swap, Cond.selects RX1 yX1_swap yX1_swap, Cond.code yX1_swap cX1_swap 4 none, Cond.methodLink RX1 19 yX1_hasIndex, Cond.instanceMethod yX1_hasIndex, Cond.selects RX1 yX1_hasIndex yX1_hasIndex, Cond.code yX1_hasIndex cX1_hasIndex 2 (some .boolean), Cond.methodLink RX2 91 yX1_length, Cond.instanceMethod yX1_length, Cond.selects RX1 yX1_length yX1_length]
def wsX2_pathSum_r4 : List Cond := [Cond.code yX1_length cX1_length 1 (some .int), Cond.methodLink RX2 88 yX1_vertexAt, Cond.instanceMethod yX1_vertexAt, Cond.selects RX1 yX1_vertexAt yX1_vertexAt, Cond.code yX1_vertexAt cX1_vertexAt 2 (some .int), Cond.methodLink RX2 94 yX0_valueOf, Cond.instanceMethod yX0_valueOf, Cond.selects RX0 yX0_valueOf yX0_valueOf, Cond.code yX0_valueOf cX0_valueOf 2 (some .int), Cond.fieldLink RX0 19 "DynamicForest$Forest" "values" "[I"]
def wsX2_pathSum : List Cond := .code yX2_pathSum cX2_pathSum 6 (some .int) :: ((wsX2_pathSum_r1 ++ (wsX2_pathSum_r2 ++ (wsX2_pathSum_r3 ++ wsX2_pathSum_r4))) ++ wsX20 ++ wsX00 ++ wsX10)
def wsX2_pathMinimum_r1 : List Cond := [Cond.fieldLink RX2 25 "DynamicForest" "path" "LDynamicForest$Path;", Cond.fieldLink RX2 10 "DynamicForest" "forest" "LDynamicForest$Forest;", Cond.methodLink RX2 82 yX2_tracePath, Cond.instanceMethod yX2_tracePath, Cond.selects RX2 yX2_tracePath yX2_tracePath, Cond.initialized RX2, Cond.code yX2_tracePath cX2_tracePath 4 (some .int), Cond.methodLink RX2 72 yX2_pathError, Cond.instanceMethod yX2_pathError, Cond.selects RX2 yX2_pathError yX2_pathError, Cond.code yX2_pathError cX2_pathError 3 (some .int), Cond.constant RX2 42 (-100000001), Cond.constant RX2 138 (-100000004), Cond.methodLink RX2 38 yX0_has, Cond.instanceMethod yX0_has, Cond.selects RX0 yX0_has yX0_has, Cond.initialized RX0, Cond.code yX0_has cX0_has 2 (some .boolean), Cond.fieldLink RX0 9 "DynamicForest$Forest" "size" "I", Cond.methodLink RX2 47 yX0_rootOf, Cond.instanceMethod yX0_rootOf, Cond.selects RX0 yX0_rootOf yX0_rootOf, Cond.code yX0_rootOf cX0_rootOf 2 (some .int), Cond.methodLink RX0 44 yX0_depthOf]
def wsX2_pathMinimum_r2 : List Cond := [Cond.instanceMethod yX0_depthOf, Cond.selects RX0 yX0_depthOf yX0_depthOf, Cond.code yX0_depthOf cX0_depthOf 4 (some .int), Cond.methodLink RX0 30 yX0_parentOf, Cond.instanceMethod yX0_parentOf, Cond.selects RX0 yX0_parentOf yX0_parentOf, Cond.code yX0_parentOf cX0_parentOf 2 (some .int), Cond.fieldLink RX0 15 "DynamicForest$Forest" "parents" "[I", Cond.methodLink RX0 26 yX0_has, Cond.methodLink RX0 47 yX0_climb, Cond.instanceMethod yX0_climb, Cond.selects RX0 yX0_climb yX0_climb, Cond.code yX0_climb cX0_climb 5 (some .int), Cond.methodLink RX2 139 yX1_trace, Cond.instanceMethod yX1_trace, Cond.selects RX1 yX1_trace yX1_trace, Cond.initialized RX1, Cond.code yX1_trace cX1_trace 6 none, Cond.fieldLink RX1 15 "DynamicForest$Path" "length" "I", Cond.methodLink RX1 23 yX0_meetingPoint, Cond.instanceMethod yX0_meetingPoint, Cond.selects RX0 yX0_meetingPoint yX0_meetingPoint, Cond.code yX0_meetingPoint cX0_meetingPoint 7 (some .int), Cond.methodLink RX1 29 yX1_appendClimb]
def wsX2_pathMinimum_r3 : List Cond := [Cond.instanceMethod yX1_appendClimb, Cond.selects RX1 yX1_appendClimb yX1_appendClimb, Cond.code yX1_appendClimb cX1_appendClimb 6 none, Cond.methodLink RX1 33 yX1_append, Cond.instanceMethod yX1_append, Cond.selects RX1 yX1_append yX1_append, Cond.code yX1_append cX1_append 2 none, Cond.fieldLink RX1 9 "DynamicForest$Path" "vertices" "[I", Cond.methodLink RX1 40 yX0_parentOf, Cond.methodLink RX1 37 yX1_reverseFrom, Cond.instanceMethod yX1_reverseFrom, Cond.selects RX1 yX1_reverseFrom yX1_reverseFrom, Cond.code yX1_reverseFrom cX1_reverseFrom 4 none, Cond.methodLink RX1 44 yX1_swap, Cond.instanceMethod yX1_swap, Cond.selects RX1 yX1_swap yX1_swap, Cond.code yX1_swap cX1_swap 4 none, Cond.methodLink RX1 19 yX1_hasIndex, Cond.instanceMethod yX1_hasIndex, Cond.selects RX1 yX1_hasIndex yX1_hasIndex, Cond.code yX1_hasIndex cX1_hasIndex 2 (some .boolean), Cond.methodLink RX2 91 yX1_length, Cond.instanceMethod yX1_length, Cond.selects RX1 yX1_length yX1_length]
def wsX2_pathMinimum_r4 : List Cond := [Cond.code yX1_length cX1_length 1 (some .int), Cond.methodLink RX2 88 yX1_vertexAt, Cond.instanceMethod yX1_vertexAt, Cond.selects RX1 yX1_vertexAt yX1_vertexAt, Cond.code yX1_vertexAt cX1_vertexAt 2 (some .int), Cond.methodLink RX2 94 yX0_valueOf, Cond.instanceMethod yX0_valueOf, Cond.selects RX0 yX0_valueOf yX0_valueOf, Cond.code yX0_valueOf cX0_valueOf 2 (some .int), Cond.fieldLink RX0 19 "DynamicForest$Forest" "values" "[I"]
def wsX2_pathMinimum : List Cond := .code yX2_pathMinimum cX2_pathMinimum 6 (some .int) :: ((wsX2_pathMinimum_r1 ++ (wsX2_pathMinimum_r2 ++ (wsX2_pathMinimum_r3 ++ wsX2_pathMinimum_r4))) ++ wsX20 ++ wsX00 ++ wsX10)
def wsX2_pathMaximum_r1 : List Cond := [Cond.fieldLink RX2 25 "DynamicForest" "path" "LDynamicForest$Path;", Cond.fieldLink RX2 10 "DynamicForest" "forest" "LDynamicForest$Forest;", Cond.methodLink RX2 82 yX2_tracePath, Cond.instanceMethod yX2_tracePath, Cond.selects RX2 yX2_tracePath yX2_tracePath, Cond.initialized RX2, Cond.code yX2_tracePath cX2_tracePath 4 (some .int), Cond.methodLink RX2 72 yX2_pathError, Cond.instanceMethod yX2_pathError, Cond.selects RX2 yX2_pathError yX2_pathError, Cond.code yX2_pathError cX2_pathError 3 (some .int), Cond.constant RX2 42 (-100000001), Cond.constant RX2 138 (-100000004), Cond.methodLink RX2 38 yX0_has, Cond.instanceMethod yX0_has, Cond.selects RX0 yX0_has yX0_has, Cond.initialized RX0, Cond.code yX0_has cX0_has 2 (some .boolean), Cond.fieldLink RX0 9 "DynamicForest$Forest" "size" "I", Cond.methodLink RX2 47 yX0_rootOf, Cond.instanceMethod yX0_rootOf, Cond.selects RX0 yX0_rootOf yX0_rootOf, Cond.code yX0_rootOf cX0_rootOf 2 (some .int), Cond.methodLink RX0 44 yX0_depthOf]
def wsX2_pathMaximum_r2 : List Cond := [Cond.instanceMethod yX0_depthOf, Cond.selects RX0 yX0_depthOf yX0_depthOf, Cond.code yX0_depthOf cX0_depthOf 4 (some .int), Cond.methodLink RX0 30 yX0_parentOf, Cond.instanceMethod yX0_parentOf, Cond.selects RX0 yX0_parentOf yX0_parentOf, Cond.code yX0_parentOf cX0_parentOf 2 (some .int), Cond.fieldLink RX0 15 "DynamicForest$Forest" "parents" "[I", Cond.methodLink RX0 26 yX0_has, Cond.methodLink RX0 47 yX0_climb, Cond.instanceMethod yX0_climb, Cond.selects RX0 yX0_climb yX0_climb, Cond.code yX0_climb cX0_climb 5 (some .int), Cond.methodLink RX2 139 yX1_trace, Cond.instanceMethod yX1_trace, Cond.selects RX1 yX1_trace yX1_trace, Cond.initialized RX1, Cond.code yX1_trace cX1_trace 6 none, Cond.fieldLink RX1 15 "DynamicForest$Path" "length" "I", Cond.methodLink RX1 23 yX0_meetingPoint, Cond.instanceMethod yX0_meetingPoint, Cond.selects RX0 yX0_meetingPoint yX0_meetingPoint, Cond.code yX0_meetingPoint cX0_meetingPoint 7 (some .int), Cond.methodLink RX1 29 yX1_appendClimb]
def wsX2_pathMaximum_r3 : List Cond := [Cond.instanceMethod yX1_appendClimb, Cond.selects RX1 yX1_appendClimb yX1_appendClimb, Cond.code yX1_appendClimb cX1_appendClimb 6 none, Cond.methodLink RX1 33 yX1_append, Cond.instanceMethod yX1_append, Cond.selects RX1 yX1_append yX1_append, Cond.code yX1_append cX1_append 2 none, Cond.fieldLink RX1 9 "DynamicForest$Path" "vertices" "[I", Cond.methodLink RX1 40 yX0_parentOf, Cond.methodLink RX1 37 yX1_reverseFrom, Cond.instanceMethod yX1_reverseFrom, Cond.selects RX1 yX1_reverseFrom yX1_reverseFrom, Cond.code yX1_reverseFrom cX1_reverseFrom 4 none, Cond.methodLink RX1 44 yX1_swap, Cond.instanceMethod yX1_swap, Cond.selects RX1 yX1_swap yX1_swap, Cond.code yX1_swap cX1_swap 4 none, Cond.methodLink RX1 19 yX1_hasIndex, Cond.instanceMethod yX1_hasIndex, Cond.selects RX1 yX1_hasIndex yX1_hasIndex, Cond.code yX1_hasIndex cX1_hasIndex 2 (some .boolean), Cond.methodLink RX2 91 yX1_length, Cond.instanceMethod yX1_length, Cond.selects RX1 yX1_length yX1_length]
def wsX2_pathMaximum_r4 : List Cond := [Cond.code yX1_length cX1_length 1 (some .int), Cond.methodLink RX2 88 yX1_vertexAt, Cond.instanceMethod yX1_vertexAt, Cond.selects RX1 yX1_vertexAt yX1_vertexAt, Cond.code yX1_vertexAt cX1_vertexAt 2 (some .int), Cond.methodLink RX2 94 yX0_valueOf, Cond.instanceMethod yX0_valueOf, Cond.selects RX0 yX0_valueOf yX0_valueOf, Cond.code yX0_valueOf cX0_valueOf 2 (some .int), Cond.fieldLink RX0 19 "DynamicForest$Forest" "values" "[I"]
def wsX2_pathMaximum : List Cond := .code yX2_pathMaximum cX2_pathMaximum 6 (some .int) :: ((wsX2_pathMaximum_r1 ++ (wsX2_pathMaximum_r2 ++ (wsX2_pathMaximum_r3 ++ wsX2_pathMaximum_r4))) ++ wsX20 ++ wsX00 ++ wsX10)
def wsX2_reach_r1 : List Cond := [Cond.fieldLink RX2 25 "DynamicForest" "path" "LDynamicForest$Path;", Cond.fieldLink RX2 10 "DynamicForest" "forest" "LDynamicForest$Forest;", Cond.constant RX2 59 (-100000007), Cond.methodLink RX2 82 yX2_tracePath, Cond.instanceMethod yX2_tracePath, Cond.selects RX2 yX2_tracePath yX2_tracePath, Cond.initialized RX2, Cond.code yX2_tracePath cX2_tracePath 4 (some .int), Cond.methodLink RX2 72 yX2_pathError, Cond.instanceMethod yX2_pathError, Cond.selects RX2 yX2_pathError yX2_pathError, Cond.code yX2_pathError cX2_pathError 3 (some .int), Cond.constant RX2 42 (-100000001), Cond.constant RX2 138 (-100000004), Cond.methodLink RX2 38 yX0_has, Cond.instanceMethod yX0_has, Cond.selects RX0 yX0_has yX0_has, Cond.initialized RX0, Cond.code yX0_has cX0_has 2 (some .boolean), Cond.fieldLink RX0 9 "DynamicForest$Forest" "size" "I", Cond.methodLink RX2 47 yX0_rootOf, Cond.instanceMethod yX0_rootOf, Cond.selects RX0 yX0_rootOf yX0_rootOf, Cond.code yX0_rootOf cX0_rootOf 2 (some .int)]
def wsX2_reach_r2 : List Cond := [Cond.methodLink RX0 44 yX0_depthOf, Cond.instanceMethod yX0_depthOf, Cond.selects RX0 yX0_depthOf yX0_depthOf, Cond.code yX0_depthOf cX0_depthOf 4 (some .int), Cond.methodLink RX0 30 yX0_parentOf, Cond.instanceMethod yX0_parentOf, Cond.selects RX0 yX0_parentOf yX0_parentOf, Cond.code yX0_parentOf cX0_parentOf 2 (some .int), Cond.fieldLink RX0 15 "DynamicForest$Forest" "parents" "[I", Cond.methodLink RX0 26 yX0_has, Cond.methodLink RX0 47 yX0_climb, Cond.instanceMethod yX0_climb, Cond.selects RX0 yX0_climb yX0_climb, Cond.code yX0_climb cX0_climb 5 (some .int), Cond.methodLink RX2 139 yX1_trace, Cond.instanceMethod yX1_trace, Cond.selects RX1 yX1_trace yX1_trace, Cond.initialized RX1, Cond.code yX1_trace cX1_trace 6 none, Cond.fieldLink RX1 15 "DynamicForest$Path" "length" "I", Cond.methodLink RX1 23 yX0_meetingPoint, Cond.instanceMethod yX0_meetingPoint, Cond.selects RX0 yX0_meetingPoint yX0_meetingPoint, Cond.code yX0_meetingPoint cX0_meetingPoint 7 (some .int)]
def wsX2_reach_r3 : List Cond := [Cond.methodLink RX1 29 yX1_appendClimb, Cond.instanceMethod yX1_appendClimb, Cond.selects RX1 yX1_appendClimb yX1_appendClimb, Cond.code yX1_appendClimb cX1_appendClimb 6 none, Cond.methodLink RX1 33 yX1_append, Cond.instanceMethod yX1_append, Cond.selects RX1 yX1_append yX1_append, Cond.code yX1_append cX1_append 2 none, Cond.fieldLink RX1 9 "DynamicForest$Path" "vertices" "[I", Cond.methodLink RX1 40 yX0_parentOf, Cond.methodLink RX1 37 yX1_reverseFrom, Cond.instanceMethod yX1_reverseFrom, Cond.selects RX1 yX1_reverseFrom yX1_reverseFrom, Cond.code yX1_reverseFrom cX1_reverseFrom 4 none, Cond.methodLink RX1 44 yX1_swap, Cond.instanceMethod yX1_swap, Cond.selects RX1 yX1_swap yX1_swap, Cond.code yX1_swap cX1_swap 4 none, Cond.methodLink RX1 19 yX1_hasIndex, Cond.instanceMethod yX1_hasIndex, Cond.selects RX1 yX1_hasIndex yX1_hasIndex, Cond.code yX1_hasIndex cX1_hasIndex 2 (some .boolean), Cond.methodLink RX2 91 yX1_length, Cond.instanceMethod yX1_length]
def wsX2_reach_r4 : List Cond := [Cond.selects RX1 yX1_length yX1_length, Cond.code yX1_length cX1_length 1 (some .int), Cond.methodLink RX2 88 yX1_vertexAt, Cond.instanceMethod yX1_vertexAt, Cond.selects RX1 yX1_vertexAt yX1_vertexAt, Cond.code yX1_vertexAt cX1_vertexAt 2 (some .int), Cond.methodLink RX2 94 yX0_valueOf, Cond.instanceMethod yX0_valueOf, Cond.selects RX0 yX0_valueOf yX0_valueOf, Cond.code yX0_valueOf cX0_valueOf 2 (some .int), Cond.fieldLink RX0 19 "DynamicForest$Forest" "values" "[I"]
def wsX2_reach : List Cond := .code yX2_reach cX2_reach 7 (some .int) :: ((wsX2_reach_r1 ++ (wsX2_reach_r2 ++ (wsX2_reach_r3 ++ wsX2_reach_r4))) ++ wsX20 ++ wsX00 ++ wsX10)
def wsX2_isValue : List Cond := .code yX2_isValue cX2_isValue 1 (some .boolean) :: ([.constant RX2 136 (-1000000), .constant RX2 137 (1000000)])
def wsX2_addOnPath_r1 : List Cond := [Cond.constant RX2 33 (-100000002), Cond.fieldLink RX2 25 "DynamicForest" "path" "LDynamicForest$Path;", Cond.fieldLink RX2 10 "DynamicForest" "forest" "LDynamicForest$Forest;", Cond.constant RX2 100 (-100000005), Cond.methodLink RX2 82 yX2_tracePath, Cond.instanceMethod yX2_tracePath, Cond.selects RX2 yX2_tracePath yX2_tracePath, Cond.initialized RX2, Cond.code yX2_tracePath cX2_tracePath 4 (some .int), Cond.methodLink RX2 72 yX2_pathError, Cond.instanceMethod yX2_pathError, Cond.selects RX2 yX2_pathError yX2_pathError, Cond.code yX2_pathError cX2_pathError 3 (some .int), Cond.constant RX2 42 (-100000001), Cond.constant RX2 138 (-100000004), Cond.methodLink RX2 38 yX0_has, Cond.instanceMethod yX0_has, Cond.selects RX0 yX0_has yX0_has, Cond.initialized RX0, Cond.code yX0_has cX0_has 2 (some .boolean), Cond.fieldLink RX0 9 "DynamicForest$Forest" "size" "I", Cond.methodLink RX2 47 yX0_rootOf, Cond.instanceMethod yX0_rootOf, Cond.selects RX0 yX0_rootOf yX0_rootOf]
def wsX2_addOnPath_r2 : List Cond := [Cond.code yX0_rootOf cX0_rootOf 2 (some .int), Cond.methodLink RX0 44 yX0_depthOf, Cond.instanceMethod yX0_depthOf, Cond.selects RX0 yX0_depthOf yX0_depthOf, Cond.code yX0_depthOf cX0_depthOf 4 (some .int), Cond.methodLink RX0 30 yX0_parentOf, Cond.instanceMethod yX0_parentOf, Cond.selects RX0 yX0_parentOf yX0_parentOf, Cond.code yX0_parentOf cX0_parentOf 2 (some .int), Cond.fieldLink RX0 15 "DynamicForest$Forest" "parents" "[I", Cond.methodLink RX0 26 yX0_has, Cond.methodLink RX0 47 yX0_climb, Cond.instanceMethod yX0_climb, Cond.selects RX0 yX0_climb yX0_climb, Cond.code yX0_climb cX0_climb 5 (some .int), Cond.methodLink RX2 139 yX1_trace, Cond.instanceMethod yX1_trace, Cond.selects RX1 yX1_trace yX1_trace, Cond.initialized RX1, Cond.code yX1_trace cX1_trace 6 none, Cond.fieldLink RX1 15 "DynamicForest$Path" "length" "I", Cond.methodLink RX1 23 yX0_meetingPoint, Cond.instanceMethod yX0_meetingPoint, Cond.selects RX0 yX0_meetingPoint yX0_meetingPoint]
def wsX2_addOnPath_r3 : List Cond := [Cond.code yX0_meetingPoint cX0_meetingPoint 7 (some .int), Cond.methodLink RX1 29 yX1_appendClimb, Cond.instanceMethod yX1_appendClimb, Cond.selects RX1 yX1_appendClimb yX1_appendClimb, Cond.code yX1_appendClimb cX1_appendClimb 6 none, Cond.methodLink RX1 33 yX1_append, Cond.instanceMethod yX1_append, Cond.selects RX1 yX1_append yX1_append, Cond.code yX1_append cX1_append 2 none, Cond.fieldLink RX1 9 "DynamicForest$Path" "vertices" "[I", Cond.methodLink RX1 40 yX0_parentOf, Cond.methodLink RX1 37 yX1_reverseFrom, Cond.instanceMethod yX1_reverseFrom, Cond.selects RX1 yX1_reverseFrom yX1_reverseFrom, Cond.code yX1_reverseFrom cX1_reverseFrom 4 none, Cond.methodLink RX1 44 yX1_swap, Cond.instanceMethod yX1_swap, Cond.selects RX1 yX1_swap yX1_swap, Cond.code yX1_swap cX1_swap 4 none, Cond.methodLink RX1 19 yX1_hasIndex, Cond.instanceMethod yX1_hasIndex, Cond.selects RX1 yX1_hasIndex yX1_hasIndex, Cond.code yX1_hasIndex cX1_hasIndex 2 (some .boolean), Cond.methodLink RX2 97 yX2_isValue]
def wsX2_addOnPath_r4 : List Cond := [Cond.static yX2_isValue, Cond.code yX2_isValue cX2_isValue 1 (some .boolean), Cond.constant RX2 136 (-1000000), Cond.constant RX2 137 (1000000), Cond.methodLink RX2 91 yX1_length, Cond.instanceMethod yX1_length, Cond.selects RX1 yX1_length yX1_length, Cond.code yX1_length cX1_length 1 (some .int), Cond.methodLink RX2 88 yX1_vertexAt, Cond.instanceMethod yX1_vertexAt, Cond.selects RX1 yX1_vertexAt yX1_vertexAt, Cond.code yX1_vertexAt cX1_vertexAt 2 (some .int), Cond.methodLink RX2 94 yX0_valueOf, Cond.instanceMethod yX0_valueOf, Cond.selects RX0 yX0_valueOf yX0_valueOf, Cond.code yX0_valueOf cX0_valueOf 2 (some .int), Cond.fieldLink RX0 19 "DynamicForest$Forest" "values" "[I", Cond.methodLink RX2 101 yX0_putValue, Cond.instanceMethod yX0_putValue, Cond.selects RX0 yX0_putValue yX0_putValue, Cond.code yX0_putValue cX0_putValue 3 none]
def wsX2_addOnPath : List Cond := .code yX2_addOnPath cX2_addOnPath 7 (some .int) :: ((wsX2_addOnPath_r1 ++ (wsX2_addOnPath_r2 ++ (wsX2_addOnPath_r3 ++ wsX2_addOnPath_r4))) ++ wsX20 ++ wsX00 ++ wsX10)
def wsX2_setOnPath_r1 : List Cond := [Cond.constant RX2 33 (-100000002), Cond.fieldLink RX2 25 "DynamicForest" "path" "LDynamicForest$Path;", Cond.fieldLink RX2 10 "DynamicForest" "forest" "LDynamicForest$Forest;", Cond.methodLink RX2 82 yX2_tracePath, Cond.instanceMethod yX2_tracePath, Cond.selects RX2 yX2_tracePath yX2_tracePath, Cond.initialized RX2, Cond.code yX2_tracePath cX2_tracePath 4 (some .int), Cond.methodLink RX2 72 yX2_pathError, Cond.instanceMethod yX2_pathError, Cond.selects RX2 yX2_pathError yX2_pathError, Cond.code yX2_pathError cX2_pathError 3 (some .int), Cond.constant RX2 42 (-100000001), Cond.constant RX2 138 (-100000004), Cond.methodLink RX2 38 yX0_has, Cond.instanceMethod yX0_has, Cond.selects RX0 yX0_has yX0_has, Cond.initialized RX0, Cond.code yX0_has cX0_has 2 (some .boolean), Cond.fieldLink RX0 9 "DynamicForest$Forest" "size" "I", Cond.methodLink RX2 47 yX0_rootOf, Cond.instanceMethod yX0_rootOf, Cond.selects RX0 yX0_rootOf yX0_rootOf, Cond.code yX0_rootOf cX0_rootOf 2 (some .int)]
def wsX2_setOnPath_r2 : List Cond := [Cond.methodLink RX0 44 yX0_depthOf, Cond.instanceMethod yX0_depthOf, Cond.selects RX0 yX0_depthOf yX0_depthOf, Cond.code yX0_depthOf cX0_depthOf 4 (some .int), Cond.methodLink RX0 30 yX0_parentOf, Cond.instanceMethod yX0_parentOf, Cond.selects RX0 yX0_parentOf yX0_parentOf, Cond.code yX0_parentOf cX0_parentOf 2 (some .int), Cond.fieldLink RX0 15 "DynamicForest$Forest" "parents" "[I", Cond.methodLink RX0 26 yX0_has, Cond.methodLink RX0 47 yX0_climb, Cond.instanceMethod yX0_climb, Cond.selects RX0 yX0_climb yX0_climb, Cond.code yX0_climb cX0_climb 5 (some .int), Cond.methodLink RX2 139 yX1_trace, Cond.instanceMethod yX1_trace, Cond.selects RX1 yX1_trace yX1_trace, Cond.initialized RX1, Cond.code yX1_trace cX1_trace 6 none, Cond.fieldLink RX1 15 "DynamicForest$Path" "length" "I", Cond.methodLink RX1 23 yX0_meetingPoint, Cond.instanceMethod yX0_meetingPoint, Cond.selects RX0 yX0_meetingPoint yX0_meetingPoint, Cond.code yX0_meetingPoint cX0_meetingPoint 7 (some .int)]
def wsX2_setOnPath_r3 : List Cond := [Cond.methodLink RX1 29 yX1_appendClimb, Cond.instanceMethod yX1_appendClimb, Cond.selects RX1 yX1_appendClimb yX1_appendClimb, Cond.code yX1_appendClimb cX1_appendClimb 6 none, Cond.methodLink RX1 33 yX1_append, Cond.instanceMethod yX1_append, Cond.selects RX1 yX1_append yX1_append, Cond.code yX1_append cX1_append 2 none, Cond.fieldLink RX1 9 "DynamicForest$Path" "vertices" "[I", Cond.methodLink RX1 40 yX0_parentOf, Cond.methodLink RX1 37 yX1_reverseFrom, Cond.instanceMethod yX1_reverseFrom, Cond.selects RX1 yX1_reverseFrom yX1_reverseFrom, Cond.code yX1_reverseFrom cX1_reverseFrom 4 none, Cond.methodLink RX1 44 yX1_swap, Cond.instanceMethod yX1_swap, Cond.selects RX1 yX1_swap yX1_swap, Cond.code yX1_swap cX1_swap 4 none, Cond.methodLink RX1 19 yX1_hasIndex, Cond.instanceMethod yX1_hasIndex, Cond.selects RX1 yX1_hasIndex yX1_hasIndex, Cond.code yX1_hasIndex cX1_hasIndex 2 (some .boolean), Cond.methodLink RX2 97 yX2_isValue, Cond.static yX2_isValue]
def wsX2_setOnPath_r4 : List Cond := [Cond.code yX2_isValue cX2_isValue 1 (some .boolean), Cond.constant RX2 136 (-1000000), Cond.constant RX2 137 (1000000), Cond.methodLink RX2 91 yX1_length, Cond.instanceMethod yX1_length, Cond.selects RX1 yX1_length yX1_length, Cond.code yX1_length cX1_length 1 (some .int), Cond.methodLink RX2 88 yX1_vertexAt, Cond.instanceMethod yX1_vertexAt, Cond.selects RX1 yX1_vertexAt yX1_vertexAt, Cond.code yX1_vertexAt cX1_vertexAt 2 (some .int), Cond.methodLink RX2 101 yX0_putValue, Cond.instanceMethod yX0_putValue, Cond.selects RX0 yX0_putValue yX0_putValue, Cond.code yX0_putValue cX0_putValue 3 none, Cond.fieldLink RX0 19 "DynamicForest$Forest" "values" "[I"]
def wsX2_setOnPath : List Cond := .code yX2_setOnPath cX2_setOnPath 6 (some .int) :: ((wsX2_setOnPath_r1 ++ (wsX2_setOnPath_r2 ++ (wsX2_setOnPath_r3 ++ wsX2_setOnPath_r4))) ++ wsX20 ++ wsX00 ++ wsX10)
def wsX2_reverseValues_r1 : List Cond := [Cond.fieldLink RX2 25 "DynamicForest" "path" "LDynamicForest$Path;", Cond.fieldLink RX2 10 "DynamicForest" "forest" "LDynamicForest$Forest;", Cond.methodLink RX2 82 yX2_tracePath, Cond.instanceMethod yX2_tracePath, Cond.selects RX2 yX2_tracePath yX2_tracePath, Cond.initialized RX2, Cond.code yX2_tracePath cX2_tracePath 4 (some .int), Cond.methodLink RX2 72 yX2_pathError, Cond.instanceMethod yX2_pathError, Cond.selects RX2 yX2_pathError yX2_pathError, Cond.code yX2_pathError cX2_pathError 3 (some .int), Cond.constant RX2 42 (-100000001), Cond.constant RX2 138 (-100000004), Cond.methodLink RX2 38 yX0_has, Cond.instanceMethod yX0_has, Cond.selects RX0 yX0_has yX0_has, Cond.initialized RX0, Cond.code yX0_has cX0_has 2 (some .boolean), Cond.fieldLink RX0 9 "DynamicForest$Forest" "size" "I", Cond.methodLink RX2 47 yX0_rootOf, Cond.instanceMethod yX0_rootOf, Cond.selects RX0 yX0_rootOf yX0_rootOf, Cond.code yX0_rootOf cX0_rootOf 2 (some .int), Cond.methodLink RX0 44 yX0_depthOf]
def wsX2_reverseValues_r2 : List Cond := [Cond.instanceMethod yX0_depthOf, Cond.selects RX0 yX0_depthOf yX0_depthOf, Cond.code yX0_depthOf cX0_depthOf 4 (some .int), Cond.methodLink RX0 30 yX0_parentOf, Cond.instanceMethod yX0_parentOf, Cond.selects RX0 yX0_parentOf yX0_parentOf, Cond.code yX0_parentOf cX0_parentOf 2 (some .int), Cond.fieldLink RX0 15 "DynamicForest$Forest" "parents" "[I", Cond.methodLink RX0 26 yX0_has, Cond.methodLink RX0 47 yX0_climb, Cond.instanceMethod yX0_climb, Cond.selects RX0 yX0_climb yX0_climb, Cond.code yX0_climb cX0_climb 5 (some .int), Cond.methodLink RX2 139 yX1_trace, Cond.instanceMethod yX1_trace, Cond.selects RX1 yX1_trace yX1_trace, Cond.initialized RX1, Cond.code yX1_trace cX1_trace 6 none, Cond.fieldLink RX1 15 "DynamicForest$Path" "length" "I", Cond.methodLink RX1 23 yX0_meetingPoint, Cond.instanceMethod yX0_meetingPoint, Cond.selects RX0 yX0_meetingPoint yX0_meetingPoint, Cond.code yX0_meetingPoint cX0_meetingPoint 7 (some .int), Cond.methodLink RX1 29 yX1_appendClimb]
def wsX2_reverseValues_r3 : List Cond := [Cond.instanceMethod yX1_appendClimb, Cond.selects RX1 yX1_appendClimb yX1_appendClimb, Cond.code yX1_appendClimb cX1_appendClimb 6 none, Cond.methodLink RX1 33 yX1_append, Cond.instanceMethod yX1_append, Cond.selects RX1 yX1_append yX1_append, Cond.code yX1_append cX1_append 2 none, Cond.fieldLink RX1 9 "DynamicForest$Path" "vertices" "[I", Cond.methodLink RX1 40 yX0_parentOf, Cond.methodLink RX1 37 yX1_reverseFrom, Cond.instanceMethod yX1_reverseFrom, Cond.selects RX1 yX1_reverseFrom yX1_reverseFrom, Cond.code yX1_reverseFrom cX1_reverseFrom 4 none, Cond.methodLink RX1 44 yX1_swap, Cond.instanceMethod yX1_swap, Cond.selects RX1 yX1_swap yX1_swap, Cond.code yX1_swap cX1_swap 4 none, Cond.methodLink RX1 19 yX1_hasIndex, Cond.instanceMethod yX1_hasIndex, Cond.selects RX1 yX1_hasIndex yX1_hasIndex, Cond.code yX1_hasIndex cX1_hasIndex 2 (some .boolean), Cond.methodLink RX2 91 yX1_length, Cond.instanceMethod yX1_length, Cond.selects RX1 yX1_length yX1_length]
def wsX2_reverseValues_r4 : List Cond := [Cond.code yX1_length cX1_length 1 (some .int), Cond.methodLink RX2 88 yX1_vertexAt, Cond.instanceMethod yX1_vertexAt, Cond.selects RX1 yX1_vertexAt yX1_vertexAt, Cond.code yX1_vertexAt cX1_vertexAt 2 (some .int), Cond.methodLink RX2 104 yX0_swapValues, Cond.instanceMethod yX0_swapValues, Cond.selects RX0 yX0_swapValues yX0_swapValues, Cond.code yX0_swapValues cX0_swapValues 4 none, Cond.methodLink RX0 34 yX0_valueOf, Cond.instanceMethod yX0_valueOf, Cond.selects RX0 yX0_valueOf yX0_valueOf, Cond.code yX0_valueOf cX0_valueOf 2 (some .int), Cond.fieldLink RX0 19 "DynamicForest$Forest" "values" "[I", Cond.methodLink RX0 37 yX0_putValue, Cond.instanceMethod yX0_putValue, Cond.selects RX0 yX0_putValue yX0_putValue, Cond.code yX0_putValue cX0_putValue 3 none]
def wsX2_reverseValues : List Cond := .code yX2_reverseValues cX2_reverseValues 6 (some .int) :: ((wsX2_reverseValues_r1 ++ (wsX2_reverseValues_r2 ++ (wsX2_reverseValues_r3 ++ wsX2_reverseValues_r4))) ++ wsX20 ++ wsX00 ++ wsX10)
def wsX2_subtreeSize_r1 : List Cond := [Cond.fieldLink RX2 10 "DynamicForest" "forest" "LDynamicForest$Forest;", Cond.constant RX2 42 (-100000001), Cond.methodLink RX2 38 yX0_has, Cond.instanceMethod yX0_has, Cond.selects RX0 yX0_has yX0_has, Cond.initialized RX0, Cond.code yX0_has cX0_has 2 (some .boolean), Cond.fieldLink RX0 9 "DynamicForest$Forest" "size" "I", Cond.methodLink RX2 56 yX0_countBelow, Cond.instanceMethod yX0_countBelow, Cond.selects RX0 yX0_countBelow yX0_countBelow, Cond.code yX0_countBelow cX0_countBelow 4 (some .int), Cond.methodLink RX0 51 yX0_isBelow, Cond.instanceMethod yX0_isBelow, Cond.selects RX0 yX0_isBelow yX0_isBelow, Cond.code yX0_isBelow cX0_isBelow 4 (some .boolean), Cond.methodLink RX0 44 yX0_depthOf, Cond.instanceMethod yX0_depthOf, Cond.selects RX0 yX0_depthOf yX0_depthOf, Cond.code yX0_depthOf cX0_depthOf 4 (some .int), Cond.methodLink RX0 30 yX0_parentOf, Cond.instanceMethod yX0_parentOf, Cond.selects RX0 yX0_parentOf yX0_parentOf, Cond.code yX0_parentOf cX0_parentOf 2 (some .int)]
def wsX2_subtreeSize_r2 : List Cond := [Cond.fieldLink RX0 15 "DynamicForest$Forest" "parents" "[I", Cond.methodLink RX0 26 yX0_has, Cond.methodLink RX0 47 yX0_climb, Cond.instanceMethod yX0_climb, Cond.selects RX0 yX0_climb yX0_climb, Cond.code yX0_climb cX0_climb 5 (some .int)]
def wsX2_subtreeSize : List Cond := .code yX2_subtreeSize cX2_subtreeSize 2 (some .int) :: ((wsX2_subtreeSize_r1 ++ wsX2_subtreeSize_r2) ++ wsX20 ++ wsX00)
def wsX2_subtreeSum_r1 : List Cond := [Cond.fieldLink RX2 10 "DynamicForest" "forest" "LDynamicForest$Forest;", Cond.constant RX2 42 (-100000001), Cond.methodLink RX2 38 yX0_has, Cond.instanceMethod yX0_has, Cond.selects RX0 yX0_has yX0_has, Cond.initialized RX0, Cond.code yX0_has cX0_has 2 (some .boolean), Cond.fieldLink RX0 9 "DynamicForest$Forest" "size" "I", Cond.methodLink RX2 34 yX0_size, Cond.instanceMethod yX0_size, Cond.selects RX0 yX0_size yX0_size, Cond.code yX0_size cX0_size 1 (some .int), Cond.methodLink RX2 107 yX0_isBelow, Cond.instanceMethod yX0_isBelow, Cond.selects RX0 yX0_isBelow yX0_isBelow, Cond.code yX0_isBelow cX0_isBelow 4 (some .boolean), Cond.methodLink RX0 44 yX0_depthOf, Cond.instanceMethod yX0_depthOf, Cond.selects RX0 yX0_depthOf yX0_depthOf, Cond.code yX0_depthOf cX0_depthOf 4 (some .int), Cond.methodLink RX0 30 yX0_parentOf, Cond.instanceMethod yX0_parentOf, Cond.selects RX0 yX0_parentOf yX0_parentOf, Cond.code yX0_parentOf cX0_parentOf 2 (some .int)]
def wsX2_subtreeSum_r2 : List Cond := [Cond.fieldLink RX0 15 "DynamicForest$Forest" "parents" "[I", Cond.methodLink RX0 26 yX0_has, Cond.methodLink RX0 47 yX0_climb, Cond.instanceMethod yX0_climb, Cond.selects RX0 yX0_climb yX0_climb, Cond.code yX0_climb cX0_climb 5 (some .int), Cond.methodLink RX2 94 yX0_valueOf, Cond.instanceMethod yX0_valueOf, Cond.selects RX0 yX0_valueOf yX0_valueOf, Cond.code yX0_valueOf cX0_valueOf 2 (some .int), Cond.fieldLink RX0 19 "DynamicForest$Forest" "values" "[I"]
def wsX2_subtreeSum : List Cond := .code yX2_subtreeSum cX2_subtreeSum 4 (some .int) :: ((wsX2_subtreeSum_r1 ++ wsX2_subtreeSum_r2) ++ wsX20 ++ wsX00)
def wsX2_addInSubtree_r1 : List Cond := [Cond.fieldLink RX2 10 "DynamicForest" "forest" "LDynamicForest$Forest;", Cond.constant RX2 42 (-100000001), Cond.constant RX2 33 (-100000002), Cond.constant RX2 100 (-100000005), Cond.methodLink RX2 38 yX0_has, Cond.instanceMethod yX0_has, Cond.selects RX0 yX0_has yX0_has, Cond.initialized RX0, Cond.code yX0_has cX0_has 2 (some .boolean), Cond.fieldLink RX0 9 "DynamicForest$Forest" "size" "I", Cond.methodLink RX2 97 yX2_isValue, Cond.static yX2_isValue, Cond.initialized RX2, Cond.code yX2_isValue cX2_isValue 1 (some .boolean), Cond.constant RX2 136 (-1000000), Cond.constant RX2 137 (1000000), Cond.methodLink RX2 34 yX0_size, Cond.instanceMethod yX0_size, Cond.selects RX0 yX0_size yX0_size, Cond.code yX0_size cX0_size 1 (some .int), Cond.methodLink RX2 107 yX0_isBelow, Cond.instanceMethod yX0_isBelow, Cond.selects RX0 yX0_isBelow yX0_isBelow, Cond.code yX0_isBelow cX0_isBelow 4 (some .boolean)]
def wsX2_addInSubtree_r2 : List Cond := [Cond.methodLink RX0 44 yX0_depthOf, Cond.instanceMethod yX0_depthOf, Cond.selects RX0 yX0_depthOf yX0_depthOf, Cond.code yX0_depthOf cX0_depthOf 4 (some .int), Cond.methodLink RX0 30 yX0_parentOf, Cond.instanceMethod yX0_parentOf, Cond.selects RX0 yX0_parentOf yX0_parentOf, Cond.code yX0_parentOf cX0_parentOf 2 (some .int), Cond.fieldLink RX0 15 "DynamicForest$Forest" "parents" "[I", Cond.methodLink RX0 26 yX0_has, Cond.methodLink RX0 47 yX0_climb, Cond.instanceMethod yX0_climb, Cond.selects RX0 yX0_climb yX0_climb, Cond.code yX0_climb cX0_climb 5 (some .int), Cond.methodLink RX2 94 yX0_valueOf, Cond.instanceMethod yX0_valueOf, Cond.selects RX0 yX0_valueOf yX0_valueOf, Cond.code yX0_valueOf cX0_valueOf 2 (some .int), Cond.fieldLink RX0 19 "DynamicForest$Forest" "values" "[I", Cond.methodLink RX2 101 yX0_putValue, Cond.instanceMethod yX0_putValue, Cond.selects RX0 yX0_putValue yX0_putValue, Cond.code yX0_putValue cX0_putValue 3 none, Cond.methodLink RX2 56 yX0_countBelow]
def wsX2_addInSubtree_r3 : List Cond := [Cond.instanceMethod yX0_countBelow, Cond.selects RX0 yX0_countBelow yX0_countBelow, Cond.code yX0_countBelow cX0_countBelow 4 (some .int), Cond.methodLink RX0 51 yX0_isBelow]
def wsX2_addInSubtree : List Cond := .code yX2_addInSubtree cX2_addInSubtree 4 (some .int) :: ((wsX2_addInSubtree_r1 ++ (wsX2_addInSubtree_r2 ++ wsX2_addInSubtree_r3)) ++ wsX20 ++ wsX00)
def wsX2_diameter_r1 : List Cond := [Cond.fieldLink RX2 10 "DynamicForest" "forest" "LDynamicForest$Forest;", Cond.constant RX2 42 (-100000001), Cond.methodLink RX2 38 yX0_has, Cond.instanceMethod yX0_has, Cond.selects RX0 yX0_has yX0_has, Cond.initialized RX0, Cond.code yX0_has cX0_has 2 (some .boolean), Cond.fieldLink RX0 9 "DynamicForest$Forest" "size" "I", Cond.methodLink RX2 111 yX0_farthestFrom, Cond.instanceMethod yX0_farthestFrom, Cond.selects RX0 yX0_farthestFrom yX0_farthestFrom, Cond.code yX0_farthestFrom cX0_farthestFrom 7 (some .int), Cond.methodLink RX0 58 yX0_rootOf, Cond.instanceMethod yX0_rootOf, Cond.selects RX0 yX0_rootOf yX0_rootOf, Cond.code yX0_rootOf cX0_rootOf 2 (some .int), Cond.methodLink RX0 44 yX0_depthOf, Cond.instanceMethod yX0_depthOf, Cond.selects RX0 yX0_depthOf yX0_depthOf, Cond.code yX0_depthOf cX0_depthOf 4 (some .int), Cond.methodLink RX0 30 yX0_parentOf, Cond.instanceMethod yX0_parentOf, Cond.selects RX0 yX0_parentOf yX0_parentOf, Cond.code yX0_parentOf cX0_parentOf 2 (some .int)]
def wsX2_diameter_r2 : List Cond := [Cond.fieldLink RX0 15 "DynamicForest$Forest" "parents" "[I", Cond.methodLink RX0 26 yX0_has, Cond.methodLink RX0 47 yX0_climb, Cond.instanceMethod yX0_climb, Cond.selects RX0 yX0_climb yX0_climb, Cond.code yX0_climb cX0_climb 5 (some .int), Cond.methodLink RX0 61 yX0_edgesBetween, Cond.instanceMethod yX0_edgesBetween, Cond.selects RX0 yX0_edgesBetween yX0_edgesBetween, Cond.code yX0_edgesBetween cX0_edgesBetween 3 (some .int), Cond.methodLink RX0 55 yX0_meetingPoint, Cond.instanceMethod yX0_meetingPoint, Cond.selects RX0 yX0_meetingPoint yX0_meetingPoint, Cond.code yX0_meetingPoint cX0_meetingPoint 7 (some .int), Cond.methodLink RX2 79 yX0_edgesBetween]
def wsX2_diameter : List Cond := .code yX2_diameter cX2_diameter 3 (some .int) :: ((wsX2_diameter_r1 ++ wsX2_diameter_r2) ++ wsX20 ++ wsX00)
def wsX2_setValue_r1 : List Cond := [Cond.fieldLink RX2 10 "DynamicForest" "forest" "LDynamicForest$Forest;", Cond.constant RX2 42 (-100000001), Cond.constant RX2 33 (-100000002), Cond.methodLink RX2 38 yX0_has, Cond.instanceMethod yX0_has, Cond.selects RX0 yX0_has yX0_has, Cond.initialized RX0, Cond.code yX0_has cX0_has 2 (some .boolean), Cond.fieldLink RX0 9 "DynamicForest$Forest" "size" "I", Cond.methodLink RX2 97 yX2_isValue, Cond.static yX2_isValue, Cond.initialized RX2, Cond.code yX2_isValue cX2_isValue 1 (some .boolean), Cond.constant RX2 136 (-1000000), Cond.constant RX2 137 (1000000), Cond.methodLink RX2 94 yX0_valueOf, Cond.instanceMethod yX0_valueOf, Cond.selects RX0 yX0_valueOf yX0_valueOf, Cond.code yX0_valueOf cX0_valueOf 2 (some .int), Cond.fieldLink RX0 19 "DynamicForest$Forest" "values" "[I", Cond.methodLink RX0 26 yX0_has, Cond.methodLink RX2 101 yX0_putValue, Cond.instanceMethod yX0_putValue, Cond.selects RX0 yX0_putValue yX0_putValue]
def wsX2_setValue_r2 : List Cond := [Cond.code yX0_putValue cX0_putValue 3 none]
def wsX2_setValue : List Cond := .code yX2_setValue cX2_setValue 4 (some .int) :: ((wsX2_setValue_r1 ++ wsX2_setValue_r2) ++ wsX20 ++ wsX00)
def wsX2_value : List Cond := .code yX2_value cX2_value 2 (some .int) :: ([.fieldLink RX2 10 "DynamicForest" "forest" "LDynamicForest$Forest;", .constant RX2 42 (-100000001), .methodLink RX2 38 yX0_has, .instanceMethod yX0_has, .selects RX0 yX0_has yX0_has, .initialized RX0, .code yX0_has cX0_has 2 (some .boolean), .fieldLink RX0 9 "DynamicForest$Forest" "size" "I", .methodLink RX2 94 yX0_valueOf, .instanceMethod yX0_valueOf, .selects RX0 yX0_valueOf yX0_valueOf, .code yX0_valueOf cX0_valueOf 2 (some .int), .fieldLink RX0 19 "DynamicForest$Forest" "values" "[I", .methodLink RX0 26 yX0_has] ++ wsX20 ++ wsX00)
def wsX2_setMark : List Cond := .code yX2_setMark cX2_setMark 4 (some .int) :: ([.fieldLink RX2 10 "DynamicForest" "forest" "LDynamicForest$Forest;", .constant RX2 42 (-100000001), .methodLink RX2 38 yX0_has, .instanceMethod yX0_has, .selects RX0 yX0_has yX0_has, .initialized RX0, .code yX0_has cX0_has 2 (some .boolean), .fieldLink RX0 9 "DynamicForest$Forest" "size" "I", .methodLink RX2 114 yX0_isMarked, .instanceMethod yX0_isMarked, .selects RX0 yX0_isMarked yX0_isMarked, .code yX0_isMarked cX0_isMarked 2 (some .boolean), .fieldLink RX0 22 "DynamicForest$Forest" "marks" "[Z", .methodLink RX0 26 yX0_has, .methodLink RX2 117 yX0_putMark, .instanceMethod yX0_putMark, .selects RX0 yX0_putMark yX0_putMark, .code yX0_putMark cX0_putMark 3 none] ++ wsX20 ++ wsX00)
def wsX2_nearestMarked_r1 : List Cond := [Cond.fieldLink RX2 10 "DynamicForest" "forest" "LDynamicForest$Forest;", Cond.constant RX2 42 (-100000001), Cond.constant RX2 59 (-100000007), Cond.methodLink RX2 38 yX0_has, Cond.instanceMethod yX0_has, Cond.selects RX0 yX0_has yX0_has, Cond.initialized RX0, Cond.code yX0_has cX0_has 2 (some .boolean), Cond.fieldLink RX0 9 "DynamicForest$Forest" "size" "I", Cond.methodLink RX2 121 yX0_nearestMarkOf, Cond.instanceMethod yX0_nearestMarkOf, Cond.selects RX0 yX0_nearestMarkOf yX0_nearestMarkOf, Cond.code yX0_nearestMarkOf cX0_nearestMarkOf 8 (some .int), Cond.methodLink RX0 58 yX0_rootOf, Cond.instanceMethod yX0_rootOf, Cond.selects RX0 yX0_rootOf yX0_rootOf, Cond.code yX0_rootOf cX0_rootOf 2 (some .int), Cond.methodLink RX0 44 yX0_depthOf, Cond.instanceMethod yX0_depthOf, Cond.selects RX0 yX0_depthOf yX0_depthOf, Cond.code yX0_depthOf cX0_depthOf 4 (some .int), Cond.methodLink RX0 30 yX0_parentOf, Cond.instanceMethod yX0_parentOf, Cond.selects RX0 yX0_parentOf yX0_parentOf]
def wsX2_nearestMarked_r2 : List Cond := [Cond.code yX0_parentOf cX0_parentOf 2 (some .int), Cond.fieldLink RX0 15 "DynamicForest$Forest" "parents" "[I", Cond.methodLink RX0 26 yX0_has, Cond.methodLink RX0 47 yX0_climb, Cond.instanceMethod yX0_climb, Cond.selects RX0 yX0_climb yX0_climb, Cond.code yX0_climb cX0_climb 5 (some .int), Cond.methodLink RX0 64 yX0_isMarked, Cond.instanceMethod yX0_isMarked, Cond.selects RX0 yX0_isMarked yX0_isMarked, Cond.code yX0_isMarked cX0_isMarked 2 (some .boolean), Cond.fieldLink RX0 22 "DynamicForest$Forest" "marks" "[Z", Cond.methodLink RX0 61 yX0_edgesBetween, Cond.instanceMethod yX0_edgesBetween, Cond.selects RX0 yX0_edgesBetween yX0_edgesBetween, Cond.code yX0_edgesBetween cX0_edgesBetween 3 (some .int), Cond.methodLink RX0 55 yX0_meetingPoint, Cond.instanceMethod yX0_meetingPoint, Cond.selects RX0 yX0_meetingPoint yX0_meetingPoint, Cond.code yX0_meetingPoint cX0_meetingPoint 7 (some .int)]
def wsX2_nearestMarked : List Cond := .code yX2_nearestMarked cX2_nearestMarked 3 (some .int) :: ((wsX2_nearestMarked_r1 ++ wsX2_nearestMarked_r2) ++ wsX20 ++ wsX00)
def wsX2_isSlot : List Cond := .code yX2_isSlot cX2_isSlot 1 (some .boolean) :: ([])
def wsX2_slotAt : List Cond := .code yX2_slotAt cX2_slotAt 2 (some (.object "DynamicForest$Forest")) :: ([.fieldLink RX2 16 "DynamicForest" "firstSlot" "LDynamicForest$Forest;", .fieldLink RX2 19 "DynamicForest" "secondSlot" "LDynamicForest$Forest;"] ++ wsX20)
def wsX2_save_r1 : List Cond := [Cond.constant RX2 33 (-100000002), Cond.fieldLink RX2 10 "DynamicForest" "forest" "LDynamicForest$Forest;", Cond.methodLink RX2 124 yX2_isSlot, Cond.static yX2_isSlot, Cond.initialized RX2, Cond.code yX2_isSlot cX2_isSlot 1 (some .boolean), Cond.methodLink RX2 127 yX2_slotAt, Cond.instanceMethod yX2_slotAt, Cond.selects RX2 yX2_slotAt yX2_slotAt, Cond.code yX2_slotAt cX2_slotAt 2 (some (.object "DynamicForest$Forest")), Cond.fieldLink RX2 16 "DynamicForest" "firstSlot" "LDynamicForest$Forest;", Cond.fieldLink RX2 19 "DynamicForest" "secondSlot" "LDynamicForest$Forest;", Cond.methodLink RX2 131 yX0_copyFrom, Cond.instanceMethod yX0_copyFrom, Cond.selects RX0 yX0_copyFrom yX0_copyFrom, Cond.initialized RX0, Cond.code yX0_copyFrom cX0_copyFrom 3 none, Cond.fieldLink RX0 9 "DynamicForest$Forest" "size" "I", Cond.fieldLink RX0 15 "DynamicForest$Forest" "parents" "[I", Cond.fieldLink RX0 19 "DynamicForest$Forest" "values" "[I", Cond.fieldLink RX0 22 "DynamicForest$Forest" "marks" "[Z", Cond.methodLink RX2 34 yX0_size, Cond.instanceMethod yX0_size, Cond.selects RX0 yX0_size yX0_size]
def wsX2_save_r2 : List Cond := [Cond.code yX0_size cX0_size 1 (some .int)]
def wsX2_save : List Cond := .code yX2_save cX2_save 2 (some .int) :: ((wsX2_save_r1 ++ wsX2_save_r2) ++ wsX20 ++ wsX00)
def wsX2_restore_r1 : List Cond := [Cond.constant RX2 33 (-100000002), Cond.constant RX2 135 (-100000006), Cond.fieldLink RX2 10 "DynamicForest" "forest" "LDynamicForest$Forest;", Cond.methodLink RX2 124 yX2_isSlot, Cond.static yX2_isSlot, Cond.initialized RX2, Cond.code yX2_isSlot cX2_isSlot 1 (some .boolean), Cond.methodLink RX2 127 yX2_slotAt, Cond.instanceMethod yX2_slotAt, Cond.selects RX2 yX2_slotAt yX2_slotAt, Cond.code yX2_slotAt cX2_slotAt 2 (some (.object "DynamicForest$Forest")), Cond.fieldLink RX2 16 "DynamicForest" "firstSlot" "LDynamicForest$Forest;", Cond.fieldLink RX2 19 "DynamicForest" "secondSlot" "LDynamicForest$Forest;", Cond.methodLink RX2 34 yX0_size, Cond.instanceMethod yX0_size, Cond.selects RX0 yX0_size yX0_size, Cond.initialized RX0, Cond.code yX0_size cX0_size 1 (some .int), Cond.fieldLink RX0 9 "DynamicForest$Forest" "size" "I", Cond.methodLink RX2 131 yX0_copyFrom, Cond.instanceMethod yX0_copyFrom, Cond.selects RX0 yX0_copyFrom yX0_copyFrom, Cond.code yX0_copyFrom cX0_copyFrom 3 none, Cond.fieldLink RX0 15 "DynamicForest$Forest" "parents" "[I"]
def wsX2_restore_r2 : List Cond := [Cond.fieldLink RX0 19 "DynamicForest$Forest" "values" "[I", Cond.fieldLink RX0 22 "DynamicForest$Forest" "marks" "[Z"]
def wsX2_restore : List Cond := .code yX2_restore cX2_restore 3 (some .int) :: ((wsX2_restore_r1 ++ wsX2_restore_r2) ++ wsX20 ++ wsX00)
def wsX3_begin : List Cond := .code yX3_begin cX3_begin 3 none :: ([.fieldLink RX3 7 "DynamicForestModel" "state" "[I"] ++ wsX30)
def wsX3_init : List Cond := .code yX3_init cX3_init 1 none :: ([.methodLink RX3 1 objectInit, .instanceMethod objectInit, .code objectInit ⟨#[0xb1]⟩ 1 none, .arrayClass .int, .fieldLink RX3 7 "DynamicForestModel" "state" "[I", .fieldLink RX3 13 "DynamicForestModel" "slots" "[I", .arrayClass .boolean, .fieldLink RX3 16 "DynamicForestModel" "isSaved" "[Z", .fieldLink RX3 20 "DynamicForestModel" "path" "[I", .methodLink RX3 23 yX3_begin, .instanceMethod yX3_begin, .selects RX3 yX3_begin yX3_begin, .initialized RX3, .code yX3_begin cX3_begin 3 none] ++ wsX30)
def wsX3_in : List Cond := .code yX3_in cX3_in 3 (some .boolean) :: ([])
def wsX3_many : List Cond := .code yX3_many cX3_many 1 (some .int) :: ([.fieldLink RX3 7 "DynamicForestModel" "state" "[I"] ++ wsX30)
def wsX3_isVertex : List Cond := .code yX3_isVertex cX3_isVertex 2 (some .boolean) :: ([.methodLink RX3 27 yX3_many, .instanceMethod yX3_many, .selects RX3 yX3_many yX3_many, .initialized RX3, .code yX3_many cX3_many 1 (some .int), .fieldLink RX3 7 "DynamicForestModel" "state" "[I", .methodLink RX3 31 yX3_in, .static yX3_in, .code yX3_in cX3_in 3 (some .boolean)] ++ wsX30)
def wsX3_above : List Cond := .code yX3_above cX3_above 2 (some .int) :: ([.fieldLink RX3 7 "DynamicForestModel" "state" "[I"] ++ wsX30)
def wsX3_isRoot : List Cond := .code yX3_isRoot cX3_isRoot 2 (some .boolean) :: ([.methodLink RX3 35 yX3_above, .instanceMethod yX3_above, .selects RX3 yX3_above yX3_above, .initialized RX3, .code yX3_above cX3_above 2 (some .int), .fieldLink RX3 7 "DynamicForestModel" "state" "[I"] ++ wsX30)
def wsX3_valueOf : List Cond := .code yX3_valueOf cX3_valueOf 2 (some .int) :: ([.fieldLink RX3 7 "DynamicForestModel" "state" "[I"] ++ wsX30)
def wsX3_rootOf : List Cond := .code yX3_rootOf cX3_rootOf 3 (some .int) :: ([.methodLink RX3 39 yX3_isRoot, .instanceMethod yX3_isRoot, .selects RX3 yX3_isRoot yX3_isRoot, .initialized RX3, .code yX3_isRoot cX3_isRoot 2 (some .boolean), .methodLink RX3 35 yX3_above, .instanceMethod yX3_above, .selects RX3 yX3_above yX3_above, .code yX3_above cX3_above 2 (some .int), .fieldLink RX3 7 "DynamicForestModel" "state" "[I"] ++ wsX30)
def wsX3_depthOf : List Cond := .code yX3_depthOf cX3_depthOf 4 (some .int) :: ([.methodLink RX3 39 yX3_isRoot, .instanceMethod yX3_isRoot, .selects RX3 yX3_isRoot yX3_isRoot, .initialized RX3, .code yX3_isRoot cX3_isRoot 2 (some .boolean), .methodLink RX3 35 yX3_above, .instanceMethod yX3_above, .selects RX3 yX3_above yX3_above, .code yX3_above cX3_above 2 (some .int), .fieldLink RX3 7 "DynamicForestModel" "state" "[I"] ++ wsX30)
def wsX3_reset : List Cond := .code yX3_reset cX3_reset 3 (some .int) :: ([.constant RX3 43 (-100000002), .methodLink RX3 31 yX3_in, .static yX3_in, .initialized RX3, .code yX3_in cX3_in 3 (some .boolean), .methodLink RX3 27 yX3_many, .instanceMethod yX3_many, .selects RX3 yX3_many yX3_many, .code yX3_many cX3_many 1 (some .int), .fieldLink RX3 7 "DynamicForestModel" "state" "[I", .methodLink RX3 23 yX3_begin, .instanceMethod yX3_begin, .selects RX3 yX3_begin yX3_begin, .code yX3_begin cX3_begin 3 none] ++ wsX30)
def wsX3_link_r1 : List Cond := [Cond.constant RX3 47 (-100000001), Cond.constant RX3 48 (-100000003), Cond.constant RX3 52 (-100000008), Cond.fieldLink RX3 7 "DynamicForestModel" "state" "[I", Cond.methodLink RX3 44 yX3_isVertex, Cond.instanceMethod yX3_isVertex, Cond.selects RX3 yX3_isVertex yX3_isVertex, Cond.initialized RX3, Cond.code yX3_isVertex cX3_isVertex 2 (some .boolean), Cond.methodLink RX3 27 yX3_many, Cond.instanceMethod yX3_many, Cond.selects RX3 yX3_many yX3_many, Cond.code yX3_many cX3_many 1 (some .int), Cond.methodLink RX3 31 yX3_in, Cond.static yX3_in, Cond.code yX3_in cX3_in 3 (some .boolean), Cond.methodLink RX3 39 yX3_isRoot, Cond.instanceMethod yX3_isRoot, Cond.selects RX3 yX3_isRoot yX3_isRoot, Cond.code yX3_isRoot cX3_isRoot 2 (some .boolean), Cond.methodLink RX3 35 yX3_above, Cond.instanceMethod yX3_above, Cond.selects RX3 yX3_above yX3_above, Cond.code yX3_above cX3_above 2 (some .int)]
def wsX3_link_r2 : List Cond := [Cond.methodLink RX3 49 yX3_rootOf, Cond.instanceMethod yX3_rootOf, Cond.selects RX3 yX3_rootOf yX3_rootOf, Cond.code yX3_rootOf cX3_rootOf 3 (some .int)]
def wsX3_link : List Cond := .code yX3_link cX3_link 6 (some .int) :: ((wsX3_link_r1 ++ wsX3_link_r2) ++ wsX30)
def wsX3_cut : List Cond := .code yX3_cut cX3_cut 3 (some .int) :: ([.constant RX3 47 (-100000001), .constant RX3 53 (-100000007), .fieldLink RX3 7 "DynamicForestModel" "state" "[I", .methodLink RX3 44 yX3_isVertex, .instanceMethod yX3_isVertex, .selects RX3 yX3_isVertex yX3_isVertex, .initialized RX3, .code yX3_isVertex cX3_isVertex 2 (some .boolean), .methodLink RX3 27 yX3_many, .instanceMethod yX3_many, .selects RX3 yX3_many yX3_many, .code yX3_many cX3_many 1 (some .int), .methodLink RX3 31 yX3_in, .static yX3_in, .code yX3_in cX3_in 3 (some .boolean), .methodLink RX3 39 yX3_isRoot, .instanceMethod yX3_isRoot, .selects RX3 yX3_isRoot yX3_isRoot, .code yX3_isRoot cX3_isRoot 2 (some .boolean), .methodLink RX3 35 yX3_above, .instanceMethod yX3_above, .selects RX3 yX3_above yX3_above, .code yX3_above cX3_above 2 (some .int)] ++ wsX30)
def wsX3_reroot_r1 : List Cond := [Cond.constant RX3 47 (-100000001), Cond.fieldLink RX3 7 "DynamicForestModel" "state" "[I", Cond.methodLink RX3 44 yX3_isVertex, Cond.instanceMethod yX3_isVertex, Cond.selects RX3 yX3_isVertex yX3_isVertex, Cond.initialized RX3, Cond.code yX3_isVertex cX3_isVertex 2 (some .boolean), Cond.methodLink RX3 27 yX3_many, Cond.instanceMethod yX3_many, Cond.selects RX3 yX3_many yX3_many, Cond.code yX3_many cX3_many 1 (some .int), Cond.methodLink RX3 31 yX3_in, Cond.static yX3_in, Cond.code yX3_in cX3_in 3 (some .boolean), Cond.methodLink RX3 49 yX3_rootOf, Cond.instanceMethod yX3_rootOf, Cond.selects RX3 yX3_rootOf yX3_rootOf, Cond.code yX3_rootOf cX3_rootOf 3 (some .int), Cond.methodLink RX3 39 yX3_isRoot, Cond.instanceMethod yX3_isRoot, Cond.selects RX3 yX3_isRoot yX3_isRoot, Cond.code yX3_isRoot cX3_isRoot 2 (some .boolean), Cond.methodLink RX3 35 yX3_above, Cond.instanceMethod yX3_above]
def wsX3_reroot_r2 : List Cond := [Cond.selects RX3 yX3_above yX3_above, Cond.code yX3_above cX3_above 2 (some .int)]
def wsX3_reroot : List Cond := .code yX3_reroot cX3_reroot 6 (some .int) :: ((wsX3_reroot_r1 ++ wsX3_reroot_r2) ++ wsX30)
def wsX3_vertexCount : List Cond := .code yX3_vertexCount cX3_vertexCount 1 (some .int) :: ([.methodLink RX3 27 yX3_many, .instanceMethod yX3_many, .selects RX3 yX3_many yX3_many, .initialized RX3, .code yX3_many cX3_many 1 (some .int), .fieldLink RX3 7 "DynamicForestModel" "state" "[I"] ++ wsX30)
def wsX3_treeCount : List Cond := .code yX3_treeCount cX3_treeCount 3 (some .int) :: ([.methodLink RX3 27 yX3_many, .instanceMethod yX3_many, .selects RX3 yX3_many yX3_many, .initialized RX3, .code yX3_many cX3_many 1 (some .int), .fieldLink RX3 7 "DynamicForestModel" "state" "[I", .methodLink RX3 39 yX3_isRoot, .instanceMethod yX3_isRoot, .selects RX3 yX3_isRoot yX3_isRoot, .code yX3_isRoot cX3_isRoot 2 (some .boolean), .methodLink RX3 35 yX3_above, .instanceMethod yX3_above, .selects RX3 yX3_above yX3_above, .code yX3_above cX3_above 2 (some .int)] ++ wsX30)
def wsX3_parent : List Cond := .code yX3_parent cX3_parent 2 (some .int) :: ([.constant RX3 47 (-100000001), .constant RX3 53 (-100000007), .methodLink RX3 44 yX3_isVertex, .instanceMethod yX3_isVertex, .selects RX3 yX3_isVertex yX3_isVertex, .initialized RX3, .code yX3_isVertex cX3_isVertex 2 (some .boolean), .methodLink RX3 27 yX3_many, .instanceMethod yX3_many, .selects RX3 yX3_many yX3_many, .code yX3_many cX3_many 1 (some .int), .fieldLink RX3 7 "DynamicForestModel" "state" "[I", .methodLink RX3 31 yX3_in, .static yX3_in, .code yX3_in cX3_in 3 (some .boolean), .methodLink RX3 39 yX3_isRoot, .instanceMethod yX3_isRoot, .selects RX3 yX3_isRoot yX3_isRoot, .code yX3_isRoot cX3_isRoot 2 (some .boolean), .methodLink RX3 35 yX3_above, .instanceMethod yX3_above, .selects RX3 yX3_above yX3_above, .code yX3_above cX3_above 2 (some .int)] ++ wsX30)
def wsX3_root_r1 : List Cond := [Cond.constant RX3 47 (-100000001), Cond.methodLink RX3 44 yX3_isVertex, Cond.instanceMethod yX3_isVertex, Cond.selects RX3 yX3_isVertex yX3_isVertex, Cond.initialized RX3, Cond.code yX3_isVertex cX3_isVertex 2 (some .boolean), Cond.methodLink RX3 27 yX3_many, Cond.instanceMethod yX3_many, Cond.selects RX3 yX3_many yX3_many, Cond.code yX3_many cX3_many 1 (some .int), Cond.fieldLink RX3 7 "DynamicForestModel" "state" "[I", Cond.methodLink RX3 31 yX3_in, Cond.static yX3_in, Cond.code yX3_in cX3_in 3 (some .boolean), Cond.methodLink RX3 49 yX3_rootOf, Cond.instanceMethod yX3_rootOf, Cond.selects RX3 yX3_rootOf yX3_rootOf, Cond.code yX3_rootOf cX3_rootOf 3 (some .int), Cond.methodLink RX3 39 yX3_isRoot, Cond.instanceMethod yX3_isRoot, Cond.selects RX3 yX3_isRoot yX3_isRoot, Cond.code yX3_isRoot cX3_isRoot 2 (some .boolean), Cond.methodLink RX3 35 yX3_above, Cond.instanceMethod yX3_above]
def wsX3_root_r2 : List Cond := [Cond.selects RX3 yX3_above yX3_above, Cond.code yX3_above cX3_above 2 (some .int)]
def wsX3_root : List Cond := .code yX3_root cX3_root 2 (some .int) :: ((wsX3_root_r1 ++ wsX3_root_r2) ++ wsX30)
def wsX3_depth_r1 : List Cond := [Cond.constant RX3 47 (-100000001), Cond.methodLink RX3 44 yX3_isVertex, Cond.instanceMethod yX3_isVertex, Cond.selects RX3 yX3_isVertex yX3_isVertex, Cond.initialized RX3, Cond.code yX3_isVertex cX3_isVertex 2 (some .boolean), Cond.methodLink RX3 27 yX3_many, Cond.instanceMethod yX3_many, Cond.selects RX3 yX3_many yX3_many, Cond.code yX3_many cX3_many 1 (some .int), Cond.fieldLink RX3 7 "DynamicForestModel" "state" "[I", Cond.methodLink RX3 31 yX3_in, Cond.static yX3_in, Cond.code yX3_in cX3_in 3 (some .boolean), Cond.methodLink RX3 54 yX3_depthOf, Cond.instanceMethod yX3_depthOf, Cond.selects RX3 yX3_depthOf yX3_depthOf, Cond.code yX3_depthOf cX3_depthOf 4 (some .int), Cond.methodLink RX3 39 yX3_isRoot, Cond.instanceMethod yX3_isRoot, Cond.selects RX3 yX3_isRoot yX3_isRoot, Cond.code yX3_isRoot cX3_isRoot 2 (some .boolean), Cond.methodLink RX3 35 yX3_above, Cond.instanceMethod yX3_above]
def wsX3_depth_r2 : List Cond := [Cond.selects RX3 yX3_above yX3_above, Cond.code yX3_above cX3_above 2 (some .int)]
def wsX3_depth : List Cond := .code yX3_depth cX3_depth 2 (some .int) :: ((wsX3_depth_r1 ++ wsX3_depth_r2) ++ wsX30)
def wsX3_connected_r1 : List Cond := [Cond.constant RX3 47 (-100000001), Cond.methodLink RX3 44 yX3_isVertex, Cond.instanceMethod yX3_isVertex, Cond.selects RX3 yX3_isVertex yX3_isVertex, Cond.initialized RX3, Cond.code yX3_isVertex cX3_isVertex 2 (some .boolean), Cond.methodLink RX3 27 yX3_many, Cond.instanceMethod yX3_many, Cond.selects RX3 yX3_many yX3_many, Cond.code yX3_many cX3_many 1 (some .int), Cond.fieldLink RX3 7 "DynamicForestModel" "state" "[I", Cond.methodLink RX3 31 yX3_in, Cond.static yX3_in, Cond.code yX3_in cX3_in 3 (some .boolean), Cond.methodLink RX3 49 yX3_rootOf, Cond.instanceMethod yX3_rootOf, Cond.selects RX3 yX3_rootOf yX3_rootOf, Cond.code yX3_rootOf cX3_rootOf 3 (some .int), Cond.methodLink RX3 39 yX3_isRoot, Cond.instanceMethod yX3_isRoot, Cond.selects RX3 yX3_isRoot yX3_isRoot, Cond.code yX3_isRoot cX3_isRoot 2 (some .boolean), Cond.methodLink RX3 35 yX3_above, Cond.instanceMethod yX3_above]
def wsX3_connected_r2 : List Cond := [Cond.selects RX3 yX3_above yX3_above, Cond.code yX3_above cX3_above 2 (some .int)]
def wsX3_connected : List Cond := .code yX3_connected cX3_connected 3 (some .int) :: ((wsX3_connected_r1 ++ wsX3_connected_r2) ++ wsX30)
def wsX3_wrongPair_r1 : List Cond := [Cond.constant RX3 47 (-100000001), Cond.constant RX3 57 (-100000004), Cond.methodLink RX3 44 yX3_isVertex, Cond.instanceMethod yX3_isVertex, Cond.selects RX3 yX3_isVertex yX3_isVertex, Cond.initialized RX3, Cond.code yX3_isVertex cX3_isVertex 2 (some .boolean), Cond.methodLink RX3 27 yX3_many, Cond.instanceMethod yX3_many, Cond.selects RX3 yX3_many yX3_many, Cond.code yX3_many cX3_many 1 (some .int), Cond.fieldLink RX3 7 "DynamicForestModel" "state" "[I", Cond.methodLink RX3 31 yX3_in, Cond.static yX3_in, Cond.code yX3_in cX3_in 3 (some .boolean), Cond.methodLink RX3 49 yX3_rootOf, Cond.instanceMethod yX3_rootOf, Cond.selects RX3 yX3_rootOf yX3_rootOf, Cond.code yX3_rootOf cX3_rootOf 3 (some .int), Cond.methodLink RX3 39 yX3_isRoot, Cond.instanceMethod yX3_isRoot, Cond.selects RX3 yX3_isRoot yX3_isRoot, Cond.code yX3_isRoot cX3_isRoot 2 (some .boolean), Cond.methodLink RX3 35 yX3_above]
def wsX3_wrongPair_r2 : List Cond := [Cond.instanceMethod yX3_above, Cond.selects RX3 yX3_above yX3_above, Cond.code yX3_above cX3_above 2 (some .int)]
def wsX3_wrongPair : List Cond := .code yX3_wrongPair cX3_wrongPair 3 (some .int) :: ((wsX3_wrongPair_r1 ++ wsX3_wrongPair_r2) ++ wsX30)
def wsX3_meetingOf : List Cond := .code yX3_meetingOf cX3_meetingOf 5 (some .int) :: ([.methodLink RX3 54 yX3_depthOf, .instanceMethod yX3_depthOf, .selects RX3 yX3_depthOf yX3_depthOf, .initialized RX3, .code yX3_depthOf cX3_depthOf 4 (some .int), .methodLink RX3 39 yX3_isRoot, .instanceMethod yX3_isRoot, .selects RX3 yX3_isRoot yX3_isRoot, .code yX3_isRoot cX3_isRoot 2 (some .boolean), .methodLink RX3 35 yX3_above, .instanceMethod yX3_above, .selects RX3 yX3_above yX3_above, .code yX3_above cX3_above 2 (some .int), .fieldLink RX3 7 "DynamicForestModel" "state" "[I"] ++ wsX30)
def wsX3_layPath : List Cond := .code yX3_layPath cX3_layPath 6 none :: ([.fieldLink RX3 62 "DynamicForestModel" "pathMany" "I", .fieldLink RX3 20 "DynamicForestModel" "path" "[I", .methodLink RX3 58 yX3_meetingOf, .instanceMethod yX3_meetingOf, .selects RX3 yX3_meetingOf yX3_meetingOf, .initialized RX3, .code yX3_meetingOf cX3_meetingOf 5 (some .int), .methodLink RX3 54 yX3_depthOf, .instanceMethod yX3_depthOf, .selects RX3 yX3_depthOf yX3_depthOf, .code yX3_depthOf cX3_depthOf 4 (some .int), .methodLink RX3 39 yX3_isRoot, .instanceMethod yX3_isRoot, .selects RX3 yX3_isRoot yX3_isRoot, .code yX3_isRoot cX3_isRoot 2 (some .boolean), .methodLink RX3 35 yX3_above, .instanceMethod yX3_above, .selects RX3 yX3_above yX3_above, .code yX3_above cX3_above 2 (some .int), .fieldLink RX3 7 "DynamicForestModel" "state" "[I"] ++ wsX30)
def wsX3_commonAncestor_r1 : List Cond := [Cond.methodLink RX3 66 yX3_wrongPair, Cond.instanceMethod yX3_wrongPair, Cond.selects RX3 yX3_wrongPair yX3_wrongPair, Cond.initialized RX3, Cond.code yX3_wrongPair cX3_wrongPair 3 (some .int), Cond.constant RX3 47 (-100000001), Cond.constant RX3 57 (-100000004), Cond.methodLink RX3 44 yX3_isVertex, Cond.instanceMethod yX3_isVertex, Cond.selects RX3 yX3_isVertex yX3_isVertex, Cond.code yX3_isVertex cX3_isVertex 2 (some .boolean), Cond.methodLink RX3 27 yX3_many, Cond.instanceMethod yX3_many, Cond.selects RX3 yX3_many yX3_many, Cond.code yX3_many cX3_many 1 (some .int), Cond.fieldLink RX3 7 "DynamicForestModel" "state" "[I", Cond.methodLink RX3 31 yX3_in, Cond.static yX3_in, Cond.code yX3_in cX3_in 3 (some .boolean), Cond.methodLink RX3 49 yX3_rootOf, Cond.instanceMethod yX3_rootOf, Cond.selects RX3 yX3_rootOf yX3_rootOf, Cond.code yX3_rootOf cX3_rootOf 3 (some .int), Cond.methodLink RX3 39 yX3_isRoot]
def wsX3_commonAncestor_r2 : List Cond := [Cond.instanceMethod yX3_isRoot, Cond.selects RX3 yX3_isRoot yX3_isRoot, Cond.code yX3_isRoot cX3_isRoot 2 (some .boolean), Cond.methodLink RX3 35 yX3_above, Cond.instanceMethod yX3_above, Cond.selects RX3 yX3_above yX3_above, Cond.code yX3_above cX3_above 2 (some .int), Cond.methodLink RX3 58 yX3_meetingOf, Cond.instanceMethod yX3_meetingOf, Cond.selects RX3 yX3_meetingOf yX3_meetingOf, Cond.code yX3_meetingOf cX3_meetingOf 5 (some .int), Cond.methodLink RX3 54 yX3_depthOf, Cond.instanceMethod yX3_depthOf, Cond.selects RX3 yX3_depthOf yX3_depthOf, Cond.code yX3_depthOf cX3_depthOf 4 (some .int)]
def wsX3_commonAncestor : List Cond := .code yX3_commonAncestor cX3_commonAncestor 4 (some .int) :: ((wsX3_commonAncestor_r1 ++ wsX3_commonAncestor_r2) ++ wsX30)
def wsX3_distanceOf : List Cond := .code yX3_distanceOf cX3_distanceOf 3 (some .int) :: ([.methodLink RX3 54 yX3_depthOf, .instanceMethod yX3_depthOf, .selects RX3 yX3_depthOf yX3_depthOf, .initialized RX3, .code yX3_depthOf cX3_depthOf 4 (some .int), .methodLink RX3 39 yX3_isRoot, .instanceMethod yX3_isRoot, .selects RX3 yX3_isRoot yX3_isRoot, .code yX3_isRoot cX3_isRoot 2 (some .boolean), .methodLink RX3 35 yX3_above, .instanceMethod yX3_above, .selects RX3 yX3_above yX3_above, .code yX3_above cX3_above 2 (some .int), .fieldLink RX3 7 "DynamicForestModel" "state" "[I", .methodLink RX3 58 yX3_meetingOf, .instanceMethod yX3_meetingOf, .selects RX3 yX3_meetingOf yX3_meetingOf, .code yX3_meetingOf cX3_meetingOf 5 (some .int)] ++ wsX30)
def wsX3_distance_r1 : List Cond := [Cond.methodLink RX3 66 yX3_wrongPair, Cond.instanceMethod yX3_wrongPair, Cond.selects RX3 yX3_wrongPair yX3_wrongPair, Cond.initialized RX3, Cond.code yX3_wrongPair cX3_wrongPair 3 (some .int), Cond.constant RX3 47 (-100000001), Cond.constant RX3 57 (-100000004), Cond.methodLink RX3 44 yX3_isVertex, Cond.instanceMethod yX3_isVertex, Cond.selects RX3 yX3_isVertex yX3_isVertex, Cond.code yX3_isVertex cX3_isVertex 2 (some .boolean), Cond.methodLink RX3 27 yX3_many, Cond.instanceMethod yX3_many, Cond.selects RX3 yX3_many yX3_many, Cond.code yX3_many cX3_many 1 (some .int), Cond.fieldLink RX3 7 "DynamicForestModel" "state" "[I", Cond.methodLink RX3 31 yX3_in, Cond.static yX3_in, Cond.code yX3_in cX3_in 3 (some .boolean), Cond.methodLink RX3 49 yX3_rootOf, Cond.instanceMethod yX3_rootOf, Cond.selects RX3 yX3_rootOf yX3_rootOf, Cond.code yX3_rootOf cX3_rootOf 3 (some .int), Cond.methodLink RX3 39 yX3_isRoot]
def wsX3_distance_r2 : List Cond := [Cond.instanceMethod yX3_isRoot, Cond.selects RX3 yX3_isRoot yX3_isRoot, Cond.code yX3_isRoot cX3_isRoot 2 (some .boolean), Cond.methodLink RX3 35 yX3_above, Cond.instanceMethod yX3_above, Cond.selects RX3 yX3_above yX3_above, Cond.code yX3_above cX3_above 2 (some .int), Cond.methodLink RX3 69 yX3_distanceOf, Cond.instanceMethod yX3_distanceOf, Cond.selects RX3 yX3_distanceOf yX3_distanceOf, Cond.code yX3_distanceOf cX3_distanceOf 3 (some .int), Cond.methodLink RX3 54 yX3_depthOf, Cond.instanceMethod yX3_depthOf, Cond.selects RX3 yX3_depthOf yX3_depthOf, Cond.code yX3_depthOf cX3_depthOf 4 (some .int), Cond.methodLink RX3 58 yX3_meetingOf, Cond.instanceMethod yX3_meetingOf, Cond.selects RX3 yX3_meetingOf yX3_meetingOf, Cond.code yX3_meetingOf cX3_meetingOf 5 (some .int)]
def wsX3_distance : List Cond := .code yX3_distance cX3_distance 4 (some .int) :: ((wsX3_distance_r1 ++ wsX3_distance_r2) ++ wsX30)
def wsX3_pathVertex_r1 : List Cond := [Cond.fieldLink RX3 62 "DynamicForestModel" "pathMany" "I", Cond.fieldLink RX3 20 "DynamicForestModel" "path" "[I", Cond.constant RX3 53 (-100000007), Cond.methodLink RX3 66 yX3_wrongPair, Cond.instanceMethod yX3_wrongPair, Cond.selects RX3 yX3_wrongPair yX3_wrongPair, Cond.initialized RX3, Cond.code yX3_wrongPair cX3_wrongPair 3 (some .int), Cond.constant RX3 47 (-100000001), Cond.constant RX3 57 (-100000004), Cond.methodLink RX3 44 yX3_isVertex, Cond.instanceMethod yX3_isVertex, Cond.selects RX3 yX3_isVertex yX3_isVertex, Cond.code yX3_isVertex cX3_isVertex 2 (some .boolean), Cond.methodLink RX3 27 yX3_many, Cond.instanceMethod yX3_many, Cond.selects RX3 yX3_many yX3_many, Cond.code yX3_many cX3_many 1 (some .int), Cond.fieldLink RX3 7 "DynamicForestModel" "state" "[I", Cond.methodLink RX3 31 yX3_in, Cond.static yX3_in, Cond.code yX3_in cX3_in 3 (some .boolean), Cond.methodLink RX3 49 yX3_rootOf, Cond.instanceMethod yX3_rootOf]
def wsX3_pathVertex_r2 : List Cond := [Cond.selects RX3 yX3_rootOf yX3_rootOf, Cond.code yX3_rootOf cX3_rootOf 3 (some .int), Cond.methodLink RX3 39 yX3_isRoot, Cond.instanceMethod yX3_isRoot, Cond.selects RX3 yX3_isRoot yX3_isRoot, Cond.code yX3_isRoot cX3_isRoot 2 (some .boolean), Cond.methodLink RX3 35 yX3_above, Cond.instanceMethod yX3_above, Cond.selects RX3 yX3_above yX3_above, Cond.code yX3_above cX3_above 2 (some .int), Cond.methodLink RX3 72 yX3_layPath, Cond.instanceMethod yX3_layPath, Cond.selects RX3 yX3_layPath yX3_layPath, Cond.code yX3_layPath cX3_layPath 6 none, Cond.methodLink RX3 58 yX3_meetingOf, Cond.instanceMethod yX3_meetingOf, Cond.selects RX3 yX3_meetingOf yX3_meetingOf, Cond.code yX3_meetingOf cX3_meetingOf 5 (some .int), Cond.methodLink RX3 54 yX3_depthOf, Cond.instanceMethod yX3_depthOf, Cond.selects RX3 yX3_depthOf yX3_depthOf, Cond.code yX3_depthOf cX3_depthOf 4 (some .int)]
def wsX3_pathVertex : List Cond := .code yX3_pathVertex cX3_pathVertex 5 (some .int) :: ((wsX3_pathVertex_r1 ++ wsX3_pathVertex_r2) ++ wsX30)
def wsX3_pathSum_r1 : List Cond := [Cond.fieldLink RX3 62 "DynamicForestModel" "pathMany" "I", Cond.fieldLink RX3 20 "DynamicForestModel" "path" "[I", Cond.methodLink RX3 66 yX3_wrongPair, Cond.instanceMethod yX3_wrongPair, Cond.selects RX3 yX3_wrongPair yX3_wrongPair, Cond.initialized RX3, Cond.code yX3_wrongPair cX3_wrongPair 3 (some .int), Cond.constant RX3 47 (-100000001), Cond.constant RX3 57 (-100000004), Cond.methodLink RX3 44 yX3_isVertex, Cond.instanceMethod yX3_isVertex, Cond.selects RX3 yX3_isVertex yX3_isVertex, Cond.code yX3_isVertex cX3_isVertex 2 (some .boolean), Cond.methodLink RX3 27 yX3_many, Cond.instanceMethod yX3_many, Cond.selects RX3 yX3_many yX3_many, Cond.code yX3_many cX3_many 1 (some .int), Cond.fieldLink RX3 7 "DynamicForestModel" "state" "[I", Cond.methodLink RX3 31 yX3_in, Cond.static yX3_in, Cond.code yX3_in cX3_in 3 (some .boolean), Cond.methodLink RX3 49 yX3_rootOf, Cond.instanceMethod yX3_rootOf, Cond.selects RX3 yX3_rootOf yX3_rootOf]
def wsX3_pathSum_r2 : List Cond := [Cond.code yX3_rootOf cX3_rootOf 3 (some .int), Cond.methodLink RX3 39 yX3_isRoot, Cond.instanceMethod yX3_isRoot, Cond.selects RX3 yX3_isRoot yX3_isRoot, Cond.code yX3_isRoot cX3_isRoot 2 (some .boolean), Cond.methodLink RX3 35 yX3_above, Cond.instanceMethod yX3_above, Cond.selects RX3 yX3_above yX3_above, Cond.code yX3_above cX3_above 2 (some .int), Cond.methodLink RX3 72 yX3_layPath, Cond.instanceMethod yX3_layPath, Cond.selects RX3 yX3_layPath yX3_layPath, Cond.code yX3_layPath cX3_layPath 6 none, Cond.methodLink RX3 58 yX3_meetingOf, Cond.instanceMethod yX3_meetingOf, Cond.selects RX3 yX3_meetingOf yX3_meetingOf, Cond.code yX3_meetingOf cX3_meetingOf 5 (some .int), Cond.methodLink RX3 54 yX3_depthOf, Cond.instanceMethod yX3_depthOf, Cond.selects RX3 yX3_depthOf yX3_depthOf, Cond.code yX3_depthOf cX3_depthOf 4 (some .int), Cond.methodLink RX3 76 yX3_valueOf, Cond.instanceMethod yX3_valueOf, Cond.selects RX3 yX3_valueOf yX3_valueOf]
def wsX3_pathSum_r3 : List Cond := [Cond.code yX3_valueOf cX3_valueOf 2 (some .int)]
def wsX3_pathSum : List Cond := .code yX3_pathSum cX3_pathSum 6 (some .int) :: ((wsX3_pathSum_r1 ++ (wsX3_pathSum_r2 ++ wsX3_pathSum_r3)) ++ wsX30)
def wsX3_farthest : List Cond := .code yX3_farthest cX3_farthest 4 (some .int) :: ([.fieldLink RX3 20 "DynamicForestModel" "path" "[I", .fieldLink RX3 62 "DynamicForestModel" "pathMany" "I", .methodLink RX3 76 yX3_valueOf, .instanceMethod yX3_valueOf, .selects RX3 yX3_valueOf yX3_valueOf, .initialized RX3, .code yX3_valueOf cX3_valueOf 2 (some .int), .fieldLink RX3 7 "DynamicForestModel" "state" "[I"] ++ wsX30)
def wsX3_pathMinimum_r1 : List Cond := [Cond.methodLink RX3 66 yX3_wrongPair, Cond.instanceMethod yX3_wrongPair, Cond.selects RX3 yX3_wrongPair yX3_wrongPair, Cond.initialized RX3, Cond.code yX3_wrongPair cX3_wrongPair 3 (some .int), Cond.constant RX3 47 (-100000001), Cond.constant RX3 57 (-100000004), Cond.methodLink RX3 44 yX3_isVertex, Cond.instanceMethod yX3_isVertex, Cond.selects RX3 yX3_isVertex yX3_isVertex, Cond.code yX3_isVertex cX3_isVertex 2 (some .boolean), Cond.methodLink RX3 27 yX3_many, Cond.instanceMethod yX3_many, Cond.selects RX3 yX3_many yX3_many, Cond.code yX3_many cX3_many 1 (some .int), Cond.fieldLink RX3 7 "DynamicForestModel" "state" "[I", Cond.methodLink RX3 31 yX3_in, Cond.static yX3_in, Cond.code yX3_in cX3_in 3 (some .boolean), Cond.methodLink RX3 49 yX3_rootOf, Cond.instanceMethod yX3_rootOf, Cond.selects RX3 yX3_rootOf yX3_rootOf, Cond.code yX3_rootOf cX3_rootOf 3 (some .int), Cond.methodLink RX3 39 yX3_isRoot]
def wsX3_pathMinimum_r2 : List Cond := [Cond.instanceMethod yX3_isRoot, Cond.selects RX3 yX3_isRoot yX3_isRoot, Cond.code yX3_isRoot cX3_isRoot 2 (some .boolean), Cond.methodLink RX3 35 yX3_above, Cond.instanceMethod yX3_above, Cond.selects RX3 yX3_above yX3_above, Cond.code yX3_above cX3_above 2 (some .int), Cond.methodLink RX3 72 yX3_layPath, Cond.instanceMethod yX3_layPath, Cond.selects RX3 yX3_layPath yX3_layPath, Cond.code yX3_layPath cX3_layPath 6 none, Cond.fieldLink RX3 62 "DynamicForestModel" "pathMany" "I", Cond.fieldLink RX3 20 "DynamicForestModel" "path" "[I", Cond.methodLink RX3 58 yX3_meetingOf, Cond.instanceMethod yX3_meetingOf, Cond.selects RX3 yX3_meetingOf yX3_meetingOf, Cond.code yX3_meetingOf cX3_meetingOf 5 (some .int), Cond.methodLink RX3 54 yX3_depthOf, Cond.instanceMethod yX3_depthOf, Cond.selects RX3 yX3_depthOf yX3_depthOf, Cond.code yX3_depthOf cX3_depthOf 4 (some .int), Cond.methodLink RX3 79 yX3_farthest, Cond.instanceMethod yX3_farthest, Cond.selects RX3 yX3_farthest yX3_farthest]
def wsX3_pathMinimum_r3 : List Cond := [Cond.code yX3_farthest cX3_farthest 4 (some .int), Cond.methodLink RX3 76 yX3_valueOf, Cond.instanceMethod yX3_valueOf, Cond.selects RX3 yX3_valueOf yX3_valueOf, Cond.code yX3_valueOf cX3_valueOf 2 (some .int)]
def wsX3_pathMinimum : List Cond := .code yX3_pathMinimum cX3_pathMinimum 4 (some .int) :: ((wsX3_pathMinimum_r1 ++ (wsX3_pathMinimum_r2 ++ wsX3_pathMinimum_r3)) ++ wsX30)
def wsX3_pathMaximum_r1 : List Cond := [Cond.methodLink RX3 66 yX3_wrongPair, Cond.instanceMethod yX3_wrongPair, Cond.selects RX3 yX3_wrongPair yX3_wrongPair, Cond.initialized RX3, Cond.code yX3_wrongPair cX3_wrongPair 3 (some .int), Cond.constant RX3 47 (-100000001), Cond.constant RX3 57 (-100000004), Cond.methodLink RX3 44 yX3_isVertex, Cond.instanceMethod yX3_isVertex, Cond.selects RX3 yX3_isVertex yX3_isVertex, Cond.code yX3_isVertex cX3_isVertex 2 (some .boolean), Cond.methodLink RX3 27 yX3_many, Cond.instanceMethod yX3_many, Cond.selects RX3 yX3_many yX3_many, Cond.code yX3_many cX3_many 1 (some .int), Cond.fieldLink RX3 7 "DynamicForestModel" "state" "[I", Cond.methodLink RX3 31 yX3_in, Cond.static yX3_in, Cond.code yX3_in cX3_in 3 (some .boolean), Cond.methodLink RX3 49 yX3_rootOf, Cond.instanceMethod yX3_rootOf, Cond.selects RX3 yX3_rootOf yX3_rootOf, Cond.code yX3_rootOf cX3_rootOf 3 (some .int), Cond.methodLink RX3 39 yX3_isRoot]
def wsX3_pathMaximum_r2 : List Cond := [Cond.instanceMethod yX3_isRoot, Cond.selects RX3 yX3_isRoot yX3_isRoot, Cond.code yX3_isRoot cX3_isRoot 2 (some .boolean), Cond.methodLink RX3 35 yX3_above, Cond.instanceMethod yX3_above, Cond.selects RX3 yX3_above yX3_above, Cond.code yX3_above cX3_above 2 (some .int), Cond.methodLink RX3 72 yX3_layPath, Cond.instanceMethod yX3_layPath, Cond.selects RX3 yX3_layPath yX3_layPath, Cond.code yX3_layPath cX3_layPath 6 none, Cond.fieldLink RX3 62 "DynamicForestModel" "pathMany" "I", Cond.fieldLink RX3 20 "DynamicForestModel" "path" "[I", Cond.methodLink RX3 58 yX3_meetingOf, Cond.instanceMethod yX3_meetingOf, Cond.selects RX3 yX3_meetingOf yX3_meetingOf, Cond.code yX3_meetingOf cX3_meetingOf 5 (some .int), Cond.methodLink RX3 54 yX3_depthOf, Cond.instanceMethod yX3_depthOf, Cond.selects RX3 yX3_depthOf yX3_depthOf, Cond.code yX3_depthOf cX3_depthOf 4 (some .int), Cond.methodLink RX3 79 yX3_farthest, Cond.instanceMethod yX3_farthest, Cond.selects RX3 yX3_farthest yX3_farthest]
def wsX3_pathMaximum_r3 : List Cond := [Cond.code yX3_farthest cX3_farthest 4 (some .int), Cond.methodLink RX3 76 yX3_valueOf, Cond.instanceMethod yX3_valueOf, Cond.selects RX3 yX3_valueOf yX3_valueOf, Cond.code yX3_valueOf cX3_valueOf 2 (some .int)]
def wsX3_pathMaximum : List Cond := .code yX3_pathMaximum cX3_pathMaximum 4 (some .int) :: ((wsX3_pathMaximum_r1 ++ (wsX3_pathMaximum_r2 ++ wsX3_pathMaximum_r3)) ++ wsX30)
def wsX3_reach_r1 : List Cond := [Cond.fieldLink RX3 62 "DynamicForestModel" "pathMany" "I", Cond.fieldLink RX3 20 "DynamicForestModel" "path" "[I", Cond.constant RX3 53 (-100000007), Cond.methodLink RX3 66 yX3_wrongPair, Cond.instanceMethod yX3_wrongPair, Cond.selects RX3 yX3_wrongPair yX3_wrongPair, Cond.initialized RX3, Cond.code yX3_wrongPair cX3_wrongPair 3 (some .int), Cond.constant RX3 47 (-100000001), Cond.constant RX3 57 (-100000004), Cond.methodLink RX3 44 yX3_isVertex, Cond.instanceMethod yX3_isVertex, Cond.selects RX3 yX3_isVertex yX3_isVertex, Cond.code yX3_isVertex cX3_isVertex 2 (some .boolean), Cond.methodLink RX3 27 yX3_many, Cond.instanceMethod yX3_many, Cond.selects RX3 yX3_many yX3_many, Cond.code yX3_many cX3_many 1 (some .int), Cond.fieldLink RX3 7 "DynamicForestModel" "state" "[I", Cond.methodLink RX3 31 yX3_in, Cond.static yX3_in, Cond.code yX3_in cX3_in 3 (some .boolean), Cond.methodLink RX3 49 yX3_rootOf, Cond.instanceMethod yX3_rootOf]
def wsX3_reach_r2 : List Cond := [Cond.selects RX3 yX3_rootOf yX3_rootOf, Cond.code yX3_rootOf cX3_rootOf 3 (some .int), Cond.methodLink RX3 39 yX3_isRoot, Cond.instanceMethod yX3_isRoot, Cond.selects RX3 yX3_isRoot yX3_isRoot, Cond.code yX3_isRoot cX3_isRoot 2 (some .boolean), Cond.methodLink RX3 35 yX3_above, Cond.instanceMethod yX3_above, Cond.selects RX3 yX3_above yX3_above, Cond.code yX3_above cX3_above 2 (some .int), Cond.methodLink RX3 72 yX3_layPath, Cond.instanceMethod yX3_layPath, Cond.selects RX3 yX3_layPath yX3_layPath, Cond.code yX3_layPath cX3_layPath 6 none, Cond.methodLink RX3 58 yX3_meetingOf, Cond.instanceMethod yX3_meetingOf, Cond.selects RX3 yX3_meetingOf yX3_meetingOf, Cond.code yX3_meetingOf cX3_meetingOf 5 (some .int), Cond.methodLink RX3 54 yX3_depthOf, Cond.instanceMethod yX3_depthOf, Cond.selects RX3 yX3_depthOf yX3_depthOf, Cond.code yX3_depthOf cX3_depthOf 4 (some .int), Cond.methodLink RX3 76 yX3_valueOf, Cond.instanceMethod yX3_valueOf]
def wsX3_reach_r3 : List Cond := [Cond.selects RX3 yX3_valueOf yX3_valueOf, Cond.code yX3_valueOf cX3_valueOf 2 (some .int)]
def wsX3_reach : List Cond := .code yX3_reach cX3_reach 7 (some .int) :: ((wsX3_reach_r1 ++ (wsX3_reach_r2 ++ wsX3_reach_r3)) ++ wsX30)
def wsX3_isValue : List Cond := .code yX3_isValue cX3_isValue 1 (some .boolean) :: ([.constant RX3 82 (-1000000), .constant RX3 83 (1000000), .methodLink RX3 31 yX3_in, .static yX3_in, .initialized RX3, .code yX3_in cX3_in 3 (some .boolean)])
def wsX3_addOnPath_r1 : List Cond := [Cond.constant RX3 43 (-100000002), Cond.fieldLink RX3 62 "DynamicForestModel" "pathMany" "I", Cond.fieldLink RX3 20 "DynamicForestModel" "path" "[I", Cond.constant RX3 87 (-100000005), Cond.fieldLink RX3 7 "DynamicForestModel" "state" "[I", Cond.methodLink RX3 66 yX3_wrongPair, Cond.instanceMethod yX3_wrongPair, Cond.selects RX3 yX3_wrongPair yX3_wrongPair, Cond.initialized RX3, Cond.code yX3_wrongPair cX3_wrongPair 3 (some .int), Cond.constant RX3 47 (-100000001), Cond.constant RX3 57 (-100000004), Cond.methodLink RX3 44 yX3_isVertex, Cond.instanceMethod yX3_isVertex, Cond.selects RX3 yX3_isVertex yX3_isVertex, Cond.code yX3_isVertex cX3_isVertex 2 (some .boolean), Cond.methodLink RX3 27 yX3_many, Cond.instanceMethod yX3_many, Cond.selects RX3 yX3_many yX3_many, Cond.code yX3_many cX3_many 1 (some .int), Cond.methodLink RX3 31 yX3_in, Cond.static yX3_in, Cond.code yX3_in cX3_in 3 (some .boolean), Cond.methodLink RX3 49 yX3_rootOf]
def wsX3_addOnPath_r2 : List Cond := [Cond.instanceMethod yX3_rootOf, Cond.selects RX3 yX3_rootOf yX3_rootOf, Cond.code yX3_rootOf cX3_rootOf 3 (some .int), Cond.methodLink RX3 39 yX3_isRoot, Cond.instanceMethod yX3_isRoot, Cond.selects RX3 yX3_isRoot yX3_isRoot, Cond.code yX3_isRoot cX3_isRoot 2 (some .boolean), Cond.methodLink RX3 35 yX3_above, Cond.instanceMethod yX3_above, Cond.selects RX3 yX3_above yX3_above, Cond.code yX3_above cX3_above 2 (some .int), Cond.methodLink RX3 84 yX3_isValue, Cond.static yX3_isValue, Cond.code yX3_isValue cX3_isValue 1 (some .boolean), Cond.constant RX3 82 (-1000000), Cond.constant RX3 83 (1000000), Cond.methodLink RX3 72 yX3_layPath, Cond.instanceMethod yX3_layPath, Cond.selects RX3 yX3_layPath yX3_layPath, Cond.code yX3_layPath cX3_layPath 6 none, Cond.methodLink RX3 58 yX3_meetingOf, Cond.instanceMethod yX3_meetingOf, Cond.selects RX3 yX3_meetingOf yX3_meetingOf, Cond.code yX3_meetingOf cX3_meetingOf 5 (some .int)]
def wsX3_addOnPath_r3 : List Cond := [Cond.methodLink RX3 54 yX3_depthOf, Cond.instanceMethod yX3_depthOf, Cond.selects RX3 yX3_depthOf yX3_depthOf, Cond.code yX3_depthOf cX3_depthOf 4 (some .int), Cond.methodLink RX3 76 yX3_valueOf, Cond.instanceMethod yX3_valueOf, Cond.selects RX3 yX3_valueOf yX3_valueOf, Cond.code yX3_valueOf cX3_valueOf 2 (some .int)]
def wsX3_addOnPath : List Cond := .code yX3_addOnPath cX3_addOnPath 6 (some .int) :: ((wsX3_addOnPath_r1 ++ (wsX3_addOnPath_r2 ++ wsX3_addOnPath_r3)) ++ wsX30)
def wsX3_setOnPath_r1 : List Cond := [Cond.constant RX3 43 (-100000002), Cond.fieldLink RX3 62 "DynamicForestModel" "pathMany" "I", Cond.fieldLink RX3 7 "DynamicForestModel" "state" "[I", Cond.fieldLink RX3 20 "DynamicForestModel" "path" "[I", Cond.methodLink RX3 66 yX3_wrongPair, Cond.instanceMethod yX3_wrongPair, Cond.selects RX3 yX3_wrongPair yX3_wrongPair, Cond.initialized RX3, Cond.code yX3_wrongPair cX3_wrongPair 3 (some .int), Cond.constant RX3 47 (-100000001), Cond.constant RX3 57 (-100000004), Cond.methodLink RX3 44 yX3_isVertex, Cond.instanceMethod yX3_isVertex, Cond.selects RX3 yX3_isVertex yX3_isVertex, Cond.code yX3_isVertex cX3_isVertex 2 (some .boolean), Cond.methodLink RX3 27 yX3_many, Cond.instanceMethod yX3_many, Cond.selects RX3 yX3_many yX3_many, Cond.code yX3_many cX3_many 1 (some .int), Cond.methodLink RX3 31 yX3_in, Cond.static yX3_in, Cond.code yX3_in cX3_in 3 (some .boolean), Cond.methodLink RX3 49 yX3_rootOf, Cond.instanceMethod yX3_rootOf]
def wsX3_setOnPath_r2 : List Cond := [Cond.selects RX3 yX3_rootOf yX3_rootOf, Cond.code yX3_rootOf cX3_rootOf 3 (some .int), Cond.methodLink RX3 39 yX3_isRoot, Cond.instanceMethod yX3_isRoot, Cond.selects RX3 yX3_isRoot yX3_isRoot, Cond.code yX3_isRoot cX3_isRoot 2 (some .boolean), Cond.methodLink RX3 35 yX3_above, Cond.instanceMethod yX3_above, Cond.selects RX3 yX3_above yX3_above, Cond.code yX3_above cX3_above 2 (some .int), Cond.methodLink RX3 84 yX3_isValue, Cond.static yX3_isValue, Cond.code yX3_isValue cX3_isValue 1 (some .boolean), Cond.constant RX3 82 (-1000000), Cond.constant RX3 83 (1000000), Cond.methodLink RX3 72 yX3_layPath, Cond.instanceMethod yX3_layPath, Cond.selects RX3 yX3_layPath yX3_layPath, Cond.code yX3_layPath cX3_layPath 6 none, Cond.methodLink RX3 58 yX3_meetingOf, Cond.instanceMethod yX3_meetingOf, Cond.selects RX3 yX3_meetingOf yX3_meetingOf, Cond.code yX3_meetingOf cX3_meetingOf 5 (some .int), Cond.methodLink RX3 54 yX3_depthOf]
def wsX3_setOnPath_r3 : List Cond := [Cond.instanceMethod yX3_depthOf, Cond.selects RX3 yX3_depthOf yX3_depthOf, Cond.code yX3_depthOf cX3_depthOf 4 (some .int)]
def wsX3_setOnPath : List Cond := .code yX3_setOnPath cX3_setOnPath 6 (some .int) :: ((wsX3_setOnPath_r1 ++ (wsX3_setOnPath_r2 ++ wsX3_setOnPath_r3)) ++ wsX30)
def wsX3_reverseValues_r1 : List Cond := [Cond.fieldLink RX3 62 "DynamicForestModel" "pathMany" "I", Cond.fieldLink RX3 20 "DynamicForestModel" "path" "[I", Cond.fieldLink RX3 7 "DynamicForestModel" "state" "[I", Cond.methodLink RX3 66 yX3_wrongPair, Cond.instanceMethod yX3_wrongPair, Cond.selects RX3 yX3_wrongPair yX3_wrongPair, Cond.initialized RX3, Cond.code yX3_wrongPair cX3_wrongPair 3 (some .int), Cond.constant RX3 47 (-100000001), Cond.constant RX3 57 (-100000004), Cond.methodLink RX3 44 yX3_isVertex, Cond.instanceMethod yX3_isVertex, Cond.selects RX3 yX3_isVertex yX3_isVertex, Cond.code yX3_isVertex cX3_isVertex 2 (some .boolean), Cond.methodLink RX3 27 yX3_many, Cond.instanceMethod yX3_many, Cond.selects RX3 yX3_many yX3_many, Cond.code yX3_many cX3_many 1 (some .int), Cond.methodLink RX3 31 yX3_in, Cond.static yX3_in, Cond.code yX3_in cX3_in 3 (some .boolean), Cond.methodLink RX3 49 yX3_rootOf, Cond.instanceMethod yX3_rootOf, Cond.selects RX3 yX3_rootOf yX3_rootOf]
def wsX3_reverseValues_r2 : List Cond := [Cond.code yX3_rootOf cX3_rootOf 3 (some .int), Cond.methodLink RX3 39 yX3_isRoot, Cond.instanceMethod yX3_isRoot, Cond.selects RX3 yX3_isRoot yX3_isRoot, Cond.code yX3_isRoot cX3_isRoot 2 (some .boolean), Cond.methodLink RX3 35 yX3_above, Cond.instanceMethod yX3_above, Cond.selects RX3 yX3_above yX3_above, Cond.code yX3_above cX3_above 2 (some .int), Cond.methodLink RX3 72 yX3_layPath, Cond.instanceMethod yX3_layPath, Cond.selects RX3 yX3_layPath yX3_layPath, Cond.code yX3_layPath cX3_layPath 6 none, Cond.methodLink RX3 58 yX3_meetingOf, Cond.instanceMethod yX3_meetingOf, Cond.selects RX3 yX3_meetingOf yX3_meetingOf, Cond.code yX3_meetingOf cX3_meetingOf 5 (some .int), Cond.methodLink RX3 54 yX3_depthOf, Cond.instanceMethod yX3_depthOf, Cond.selects RX3 yX3_depthOf yX3_depthOf, Cond.code yX3_depthOf cX3_depthOf 4 (some .int), Cond.methodLink RX3 76 yX3_valueOf, Cond.instanceMethod yX3_valueOf, Cond.selects RX3 yX3_valueOf yX3_valueOf]
def wsX3_reverseValues_r3 : List Cond := [Cond.code yX3_valueOf cX3_valueOf 2 (some .int)]
def wsX3_reverseValues : List Cond := .code yX3_reverseValues cX3_reverseValues 8 (some .int) :: ((wsX3_reverseValues_r1 ++ (wsX3_reverseValues_r2 ++ wsX3_reverseValues_r3)) ++ wsX30)
def wsX3_isUnder : List Cond := .code yX3_isUnder cX3_isUnder 4 (some .boolean) :: ([.methodLink RX3 39 yX3_isRoot, .instanceMethod yX3_isRoot, .selects RX3 yX3_isRoot yX3_isRoot, .initialized RX3, .code yX3_isRoot cX3_isRoot 2 (some .boolean), .methodLink RX3 35 yX3_above, .instanceMethod yX3_above, .selects RX3 yX3_above yX3_above, .code yX3_above cX3_above 2 (some .int), .fieldLink RX3 7 "DynamicForestModel" "state" "[I"] ++ wsX30)
def wsX3_subtreeSize_r1 : List Cond := [Cond.constant RX3 47 (-100000001), Cond.methodLink RX3 44 yX3_isVertex, Cond.instanceMethod yX3_isVertex, Cond.selects RX3 yX3_isVertex yX3_isVertex, Cond.initialized RX3, Cond.code yX3_isVertex cX3_isVertex 2 (some .boolean), Cond.methodLink RX3 27 yX3_many, Cond.instanceMethod yX3_many, Cond.selects RX3 yX3_many yX3_many, Cond.code yX3_many cX3_many 1 (some .int), Cond.fieldLink RX3 7 "DynamicForestModel" "state" "[I", Cond.methodLink RX3 31 yX3_in, Cond.static yX3_in, Cond.code yX3_in cX3_in 3 (some .boolean), Cond.methodLink RX3 88 yX3_isUnder, Cond.instanceMethod yX3_isUnder, Cond.selects RX3 yX3_isUnder yX3_isUnder, Cond.code yX3_isUnder cX3_isUnder 4 (some .boolean), Cond.methodLink RX3 39 yX3_isRoot, Cond.instanceMethod yX3_isRoot, Cond.selects RX3 yX3_isRoot yX3_isRoot, Cond.code yX3_isRoot cX3_isRoot 2 (some .boolean), Cond.methodLink RX3 35 yX3_above, Cond.instanceMethod yX3_above]
def wsX3_subtreeSize_r2 : List Cond := [Cond.selects RX3 yX3_above yX3_above, Cond.code yX3_above cX3_above 2 (some .int)]
def wsX3_subtreeSize : List Cond := .code yX3_subtreeSize cX3_subtreeSize 4 (some .int) :: ((wsX3_subtreeSize_r1 ++ wsX3_subtreeSize_r2) ++ wsX30)
def wsX3_subtreeSum_r1 : List Cond := [Cond.constant RX3 47 (-100000001), Cond.methodLink RX3 44 yX3_isVertex, Cond.instanceMethod yX3_isVertex, Cond.selects RX3 yX3_isVertex yX3_isVertex, Cond.initialized RX3, Cond.code yX3_isVertex cX3_isVertex 2 (some .boolean), Cond.methodLink RX3 27 yX3_many, Cond.instanceMethod yX3_many, Cond.selects RX3 yX3_many yX3_many, Cond.code yX3_many cX3_many 1 (some .int), Cond.fieldLink RX3 7 "DynamicForestModel" "state" "[I", Cond.methodLink RX3 31 yX3_in, Cond.static yX3_in, Cond.code yX3_in cX3_in 3 (some .boolean), Cond.methodLink RX3 88 yX3_isUnder, Cond.instanceMethod yX3_isUnder, Cond.selects RX3 yX3_isUnder yX3_isUnder, Cond.code yX3_isUnder cX3_isUnder 4 (some .boolean), Cond.methodLink RX3 39 yX3_isRoot, Cond.instanceMethod yX3_isRoot, Cond.selects RX3 yX3_isRoot yX3_isRoot, Cond.code yX3_isRoot cX3_isRoot 2 (some .boolean), Cond.methodLink RX3 35 yX3_above, Cond.instanceMethod yX3_above]
def wsX3_subtreeSum_r2 : List Cond := [Cond.selects RX3 yX3_above yX3_above, Cond.code yX3_above cX3_above 2 (some .int), Cond.methodLink RX3 76 yX3_valueOf, Cond.instanceMethod yX3_valueOf, Cond.selects RX3 yX3_valueOf yX3_valueOf, Cond.code yX3_valueOf cX3_valueOf 2 (some .int)]
def wsX3_subtreeSum : List Cond := .code yX3_subtreeSum cX3_subtreeSum 4 (some .int) :: ((wsX3_subtreeSum_r1 ++ wsX3_subtreeSum_r2) ++ wsX30)
def wsX3_addInSubtree_r1 : List Cond := [Cond.constant RX3 47 (-100000001), Cond.constant RX3 43 (-100000002), Cond.constant RX3 87 (-100000005), Cond.fieldLink RX3 7 "DynamicForestModel" "state" "[I", Cond.methodLink RX3 44 yX3_isVertex, Cond.instanceMethod yX3_isVertex, Cond.selects RX3 yX3_isVertex yX3_isVertex, Cond.initialized RX3, Cond.code yX3_isVertex cX3_isVertex 2 (some .boolean), Cond.methodLink RX3 27 yX3_many, Cond.instanceMethod yX3_many, Cond.selects RX3 yX3_many yX3_many, Cond.code yX3_many cX3_many 1 (some .int), Cond.methodLink RX3 31 yX3_in, Cond.static yX3_in, Cond.code yX3_in cX3_in 3 (some .boolean), Cond.methodLink RX3 84 yX3_isValue, Cond.static yX3_isValue, Cond.code yX3_isValue cX3_isValue 1 (some .boolean), Cond.constant RX3 82 (-1000000), Cond.constant RX3 83 (1000000), Cond.methodLink RX3 88 yX3_isUnder, Cond.instanceMethod yX3_isUnder, Cond.selects RX3 yX3_isUnder yX3_isUnder]
def wsX3_addInSubtree_r2 : List Cond := [Cond.code yX3_isUnder cX3_isUnder 4 (some .boolean), Cond.methodLink RX3 39 yX3_isRoot, Cond.instanceMethod yX3_isRoot, Cond.selects RX3 yX3_isRoot yX3_isRoot, Cond.code yX3_isRoot cX3_isRoot 2 (some .boolean), Cond.methodLink RX3 35 yX3_above, Cond.instanceMethod yX3_above, Cond.selects RX3 yX3_above yX3_above, Cond.code yX3_above cX3_above 2 (some .int), Cond.methodLink RX3 76 yX3_valueOf, Cond.instanceMethod yX3_valueOf, Cond.selects RX3 yX3_valueOf yX3_valueOf, Cond.code yX3_valueOf cX3_valueOf 2 (some .int)]
def wsX3_addInSubtree : List Cond := .code yX3_addInSubtree cX3_addInSubtree 5 (some .int) :: ((wsX3_addInSubtree_r1 ++ wsX3_addInSubtree_r2) ++ wsX30)
def wsX3_diameter_r1 : List Cond := [Cond.constant RX3 47 (-100000001), Cond.methodLink RX3 44 yX3_isVertex, Cond.instanceMethod yX3_isVertex, Cond.selects RX3 yX3_isVertex yX3_isVertex, Cond.initialized RX3, Cond.code yX3_isVertex cX3_isVertex 2 (some .boolean), Cond.methodLink RX3 27 yX3_many, Cond.instanceMethod yX3_many, Cond.selects RX3 yX3_many yX3_many, Cond.code yX3_many cX3_many 1 (some .int), Cond.fieldLink RX3 7 "DynamicForestModel" "state" "[I", Cond.methodLink RX3 31 yX3_in, Cond.static yX3_in, Cond.code yX3_in cX3_in 3 (some .boolean), Cond.methodLink RX3 49 yX3_rootOf, Cond.instanceMethod yX3_rootOf, Cond.selects RX3 yX3_rootOf yX3_rootOf, Cond.code yX3_rootOf cX3_rootOf 3 (some .int), Cond.methodLink RX3 39 yX3_isRoot, Cond.instanceMethod yX3_isRoot, Cond.selects RX3 yX3_isRoot yX3_isRoot, Cond.code yX3_isRoot cX3_isRoot 2 (some .boolean), Cond.methodLink RX3 35 yX3_above, Cond.instanceMethod yX3_above]
def wsX3_diameter_r2 : List Cond := [Cond.selects RX3 yX3_above yX3_above, Cond.code yX3_above cX3_above 2 (some .int), Cond.methodLink RX3 69 yX3_distanceOf, Cond.instanceMethod yX3_distanceOf, Cond.selects RX3 yX3_distanceOf yX3_distanceOf, Cond.code yX3_distanceOf cX3_distanceOf 3 (some .int), Cond.methodLink RX3 54 yX3_depthOf, Cond.instanceMethod yX3_depthOf, Cond.selects RX3 yX3_depthOf yX3_depthOf, Cond.code yX3_depthOf cX3_depthOf 4 (some .int), Cond.methodLink RX3 58 yX3_meetingOf, Cond.instanceMethod yX3_meetingOf, Cond.selects RX3 yX3_meetingOf yX3_meetingOf, Cond.code yX3_meetingOf cX3_meetingOf 5 (some .int)]
def wsX3_diameter : List Cond := .code yX3_diameter cX3_diameter 7 (some .int) :: ((wsX3_diameter_r1 ++ wsX3_diameter_r2) ++ wsX30)
def wsX3_setValue : List Cond := .code yX3_setValue cX3_setValue 4 (some .int) :: ([.constant RX3 47 (-100000001), .constant RX3 43 (-100000002), .fieldLink RX3 7 "DynamicForestModel" "state" "[I", .methodLink RX3 44 yX3_isVertex, .instanceMethod yX3_isVertex, .selects RX3 yX3_isVertex yX3_isVertex, .initialized RX3, .code yX3_isVertex cX3_isVertex 2 (some .boolean), .methodLink RX3 27 yX3_many, .instanceMethod yX3_many, .selects RX3 yX3_many yX3_many, .code yX3_many cX3_many 1 (some .int), .methodLink RX3 31 yX3_in, .static yX3_in, .code yX3_in cX3_in 3 (some .boolean), .methodLink RX3 84 yX3_isValue, .static yX3_isValue, .code yX3_isValue cX3_isValue 1 (some .boolean), .constant RX3 82 (-1000000), .constant RX3 83 (1000000), .methodLink RX3 76 yX3_valueOf, .instanceMethod yX3_valueOf, .selects RX3 yX3_valueOf yX3_valueOf, .code yX3_valueOf cX3_valueOf 2 (some .int)] ++ wsX30)
def wsX3_value : List Cond := .code yX3_value cX3_value 2 (some .int) :: ([.constant RX3 47 (-100000001), .methodLink RX3 44 yX3_isVertex, .instanceMethod yX3_isVertex, .selects RX3 yX3_isVertex yX3_isVertex, .initialized RX3, .code yX3_isVertex cX3_isVertex 2 (some .boolean), .methodLink RX3 27 yX3_many, .instanceMethod yX3_many, .selects RX3 yX3_many yX3_many, .code yX3_many cX3_many 1 (some .int), .fieldLink RX3 7 "DynamicForestModel" "state" "[I", .methodLink RX3 31 yX3_in, .static yX3_in, .code yX3_in cX3_in 3 (some .boolean), .methodLink RX3 76 yX3_valueOf, .instanceMethod yX3_valueOf, .selects RX3 yX3_valueOf yX3_valueOf, .code yX3_valueOf cX3_valueOf 2 (some .int)] ++ wsX30)
def wsX3_setMark : List Cond := .code yX3_setMark cX3_setMark 4 (some .int) :: ([.constant RX3 47 (-100000001), .fieldLink RX3 7 "DynamicForestModel" "state" "[I", .methodLink RX3 44 yX3_isVertex, .instanceMethod yX3_isVertex, .selects RX3 yX3_isVertex yX3_isVertex, .initialized RX3, .code yX3_isVertex cX3_isVertex 2 (some .boolean), .methodLink RX3 27 yX3_many, .instanceMethod yX3_many, .selects RX3 yX3_many yX3_many, .code yX3_many cX3_many 1 (some .int), .methodLink RX3 31 yX3_in, .static yX3_in, .code yX3_in cX3_in 3 (some .boolean)] ++ wsX30)
def wsX3_nearestMarked_r1 : List Cond := [Cond.constant RX3 47 (-100000001), Cond.constant RX3 53 (-100000007), Cond.fieldLink RX3 7 "DynamicForestModel" "state" "[I", Cond.methodLink RX3 44 yX3_isVertex, Cond.instanceMethod yX3_isVertex, Cond.selects RX3 yX3_isVertex yX3_isVertex, Cond.initialized RX3, Cond.code yX3_isVertex cX3_isVertex 2 (some .boolean), Cond.methodLink RX3 27 yX3_many, Cond.instanceMethod yX3_many, Cond.selects RX3 yX3_many yX3_many, Cond.code yX3_many cX3_many 1 (some .int), Cond.methodLink RX3 31 yX3_in, Cond.static yX3_in, Cond.code yX3_in cX3_in 3 (some .boolean), Cond.methodLink RX3 49 yX3_rootOf, Cond.instanceMethod yX3_rootOf, Cond.selects RX3 yX3_rootOf yX3_rootOf, Cond.code yX3_rootOf cX3_rootOf 3 (some .int), Cond.methodLink RX3 39 yX3_isRoot, Cond.instanceMethod yX3_isRoot, Cond.selects RX3 yX3_isRoot yX3_isRoot, Cond.code yX3_isRoot cX3_isRoot 2 (some .boolean), Cond.methodLink RX3 35 yX3_above]
def wsX3_nearestMarked_r2 : List Cond := [Cond.instanceMethod yX3_above, Cond.selects RX3 yX3_above yX3_above, Cond.code yX3_above cX3_above 2 (some .int), Cond.methodLink RX3 69 yX3_distanceOf, Cond.instanceMethod yX3_distanceOf, Cond.selects RX3 yX3_distanceOf yX3_distanceOf, Cond.code yX3_distanceOf cX3_distanceOf 3 (some .int), Cond.methodLink RX3 54 yX3_depthOf, Cond.instanceMethod yX3_depthOf, Cond.selects RX3 yX3_depthOf yX3_depthOf, Cond.code yX3_depthOf cX3_depthOf 4 (some .int), Cond.methodLink RX3 58 yX3_meetingOf, Cond.instanceMethod yX3_meetingOf, Cond.selects RX3 yX3_meetingOf yX3_meetingOf, Cond.code yX3_meetingOf cX3_meetingOf 5 (some .int)]
def wsX3_nearestMarked : List Cond := .code yX3_nearestMarked cX3_nearestMarked 6 (some .int) :: ((wsX3_nearestMarked_r1 ++ wsX3_nearestMarked_r2) ++ wsX30)
def wsX3_save : List Cond := .code yX3_save cX3_save 3 (some .int) :: ([.constant RX3 43 (-100000002), .fieldLink RX3 13 "DynamicForestModel" "slots" "[I", .fieldLink RX3 7 "DynamicForestModel" "state" "[I", .fieldLink RX3 16 "DynamicForestModel" "isSaved" "[Z", .methodLink RX3 31 yX3_in, .static yX3_in, .initialized RX3, .code yX3_in cX3_in 3 (some .boolean), .methodLink RX3 27 yX3_many, .instanceMethod yX3_many, .selects RX3 yX3_many yX3_many, .code yX3_many cX3_many 1 (some .int)] ++ wsX30)
def wsX3_restore : List Cond := .code yX3_restore cX3_restore 3 (some .int) :: ([.constant RX3 43 (-100000002), .fieldLink RX3 16 "DynamicForestModel" "isSaved" "[Z", .constant RX3 92 (-100000006), .fieldLink RX3 7 "DynamicForestModel" "state" "[I", .fieldLink RX3 13 "DynamicForestModel" "slots" "[I", .methodLink RX3 31 yX3_in, .static yX3_in, .initialized RX3, .code yX3_in cX3_in 3 (some .boolean), .methodLink RX3 27 yX3_many, .instanceMethod yX3_many, .selects RX3 yX3_many yX3_many, .code yX3_many cX3_many 1 (some .int)] ++ wsX30)
def wsL_law_r1 : List Cond := [Cond.classLink RL 7 RX2, Cond.instantiable RX2 4, Cond.initialized RX2, Cond.classLink RL 10 RX3, Cond.instantiable RX3 5, Cond.initialized RX3, Cond.methodLink RL 9 yX2_init, Cond.instanceMethod yX2_init, Cond.code yX2_init cX2_init 1 none, Cond.methodLink RX2 1 objectInit, Cond.instanceMethod objectInit, Cond.code objectInit ⟨#[0xb1]⟩ 1 none, Cond.classLink RX2 7 RX0, Cond.instantiable RX0 4, Cond.initialized RX0, Cond.fieldLink RX2 10 "DynamicForest" "forest" "LDynamicForest$Forest;", Cond.fieldLink RX2 16 "DynamicForest" "firstSlot" "LDynamicForest$Forest;", Cond.fieldLink RX2 19 "DynamicForest" "secondSlot" "LDynamicForest$Forest;", Cond.classLink RX2 22 RX1, Cond.instantiable RX1 2, Cond.initialized RX1, Cond.fieldLink RX2 25 "DynamicForest" "path" "LDynamicForest$Path;", Cond.methodLink RX2 9 yX0_init, Cond.instanceMethod yX0_init]
def wsL_law_r2 : List Cond := [Cond.code yX0_init cX0_init 1 none, Cond.methodLink RX0 3 objectInit, Cond.fieldLink RX0 9 "DynamicForest$Forest" "size" "I", Cond.arrayClass .int, Cond.fieldLink RX0 15 "DynamicForest$Forest" "parents" "[I", Cond.fieldLink RX0 19 "DynamicForest$Forest" "values" "[I", Cond.arrayClass .boolean, Cond.fieldLink RX0 22 "DynamicForest$Forest" "marks" "[Z", Cond.methodLink RX2 24 yX1_init, Cond.instanceMethod yX1_init, Cond.code yX1_init cX1_init 1 none, Cond.methodLink RX1 3 objectInit, Cond.fieldLink RX1 9 "DynamicForest$Path" "vertices" "[I", Cond.fieldLink RX1 15 "DynamicForest$Path" "length" "I", Cond.methodLink RX2 29 yX0_startAnew, Cond.instanceMethod yX0_startAnew, Cond.selects RX0 yX0_startAnew yX0_startAnew, Cond.code yX0_startAnew cX0_startAnew 3 none, Cond.methodLink RL 12 yX3_init, Cond.instanceMethod yX3_init, Cond.code yX3_init cX3_init 1 none, Cond.methodLink RX3 1 objectInit, Cond.fieldLink RX3 7 "DynamicForestModel" "state" "[I", Cond.fieldLink RX3 13 "DynamicForestModel" "slots" "[I"]
def wsL_law_r3 : List Cond := [Cond.fieldLink RX3 16 "DynamicForestModel" "isSaved" "[Z", Cond.fieldLink RX3 20 "DynamicForestModel" "path" "[I", Cond.methodLink RX3 23 yX3_begin, Cond.instanceMethod yX3_begin, Cond.selects RX3 yX3_begin yX3_begin, Cond.code yX3_begin cX3_begin 3 none, Cond.methodLink RL 13 yX2_reset, Cond.instanceMethod yX2_reset, Cond.selects RX2 yX2_reset yX2_reset, Cond.code yX2_reset cX2_reset 3 (some .int), Cond.constant RX2 33 (-100000002), Cond.methodLink RX2 34 yX0_size, Cond.instanceMethod yX0_size, Cond.selects RX0 yX0_size yX0_size, Cond.code yX0_size cX0_size 1 (some .int), Cond.methodLink RL 17 yX3_reset, Cond.instanceMethod yX3_reset, Cond.selects RX3 yX3_reset yX3_reset, Cond.code yX3_reset cX3_reset 3 (some .int), Cond.constant RX3 43 (-100000002), Cond.methodLink RX3 31 yX3_in, Cond.static yX3_in, Cond.code yX3_in cX3_in 3 (some .boolean), Cond.methodLink RX3 27 yX3_many]
def wsL_law_r4 : List Cond := [Cond.instanceMethod yX3_many, Cond.selects RX3 yX3_many yX3_many, Cond.code yX3_many cX3_many 1 (some .int), Cond.methodLink RL 18 yX2_link, Cond.instanceMethod yX2_link, Cond.selects RX2 yX2_link yX2_link, Cond.code yX2_link cX2_link 3 (some .int), Cond.constant RX2 42 (-100000001), Cond.constant RX2 46 (-100000003), Cond.constant RX2 51 (-100000008), Cond.methodLink RX2 38 yX0_has, Cond.instanceMethod yX0_has, Cond.selects RX0 yX0_has yX0_has, Cond.code yX0_has cX0_has 2 (some .boolean), Cond.methodLink RX2 43 yX0_isRoot, Cond.instanceMethod yX0_isRoot, Cond.selects RX0 yX0_isRoot yX0_isRoot, Cond.code yX0_isRoot cX0_isRoot 2 (some .boolean), Cond.methodLink RX0 30 yX0_parentOf, Cond.instanceMethod yX0_parentOf, Cond.selects RX0 yX0_parentOf yX0_parentOf, Cond.code yX0_parentOf cX0_parentOf 2 (some .int), Cond.methodLink RX0 26 yX0_has, Cond.methodLink RX2 47 yX0_rootOf]
def wsL_law_r5 : List Cond := [Cond.instanceMethod yX0_rootOf, Cond.selects RX0 yX0_rootOf yX0_rootOf, Cond.code yX0_rootOf cX0_rootOf 2 (some .int), Cond.methodLink RX0 44 yX0_depthOf, Cond.instanceMethod yX0_depthOf, Cond.selects RX0 yX0_depthOf yX0_depthOf, Cond.code yX0_depthOf cX0_depthOf 4 (some .int), Cond.methodLink RX0 47 yX0_climb, Cond.instanceMethod yX0_climb, Cond.selects RX0 yX0_climb yX0_climb, Cond.code yX0_climb cX0_climb 5 (some .int), Cond.methodLink RX2 52 yX0_putParent, Cond.instanceMethod yX0_putParent, Cond.selects RX0 yX0_putParent yX0_putParent, Cond.code yX0_putParent cX0_putParent 3 none, Cond.methodLink RX2 56 yX0_countBelow, Cond.instanceMethod yX0_countBelow, Cond.selects RX0 yX0_countBelow yX0_countBelow, Cond.code yX0_countBelow cX0_countBelow 4 (some .int), Cond.methodLink RX0 51 yX0_isBelow, Cond.instanceMethod yX0_isBelow, Cond.selects RX0 yX0_isBelow yX0_isBelow, Cond.code yX0_isBelow cX0_isBelow 4 (some .boolean), Cond.methodLink RL 22 yX3_link]
def wsL_law_r6 : List Cond := [Cond.instanceMethod yX3_link, Cond.selects RX3 yX3_link yX3_link, Cond.code yX3_link cX3_link 6 (some .int), Cond.constant RX3 47 (-100000001), Cond.constant RX3 48 (-100000003), Cond.constant RX3 52 (-100000008), Cond.methodLink RX3 44 yX3_isVertex, Cond.instanceMethod yX3_isVertex, Cond.selects RX3 yX3_isVertex yX3_isVertex, Cond.code yX3_isVertex cX3_isVertex 2 (some .boolean), Cond.methodLink RX3 39 yX3_isRoot, Cond.instanceMethod yX3_isRoot, Cond.selects RX3 yX3_isRoot yX3_isRoot, Cond.code yX3_isRoot cX3_isRoot 2 (some .boolean), Cond.methodLink RX3 35 yX3_above, Cond.instanceMethod yX3_above, Cond.selects RX3 yX3_above yX3_above, Cond.code yX3_above cX3_above 2 (some .int), Cond.methodLink RX3 49 yX3_rootOf, Cond.instanceMethod yX3_rootOf, Cond.selects RX3 yX3_rootOf yX3_rootOf, Cond.code yX3_rootOf cX3_rootOf 3 (some .int), Cond.methodLink RL 23 yX2_cut, Cond.instanceMethod yX2_cut]
def wsL_law_r7 : List Cond := [Cond.selects RX2 yX2_cut yX2_cut, Cond.code yX2_cut cX2_cut 3 (some .int), Cond.constant RX2 59 (-100000007), Cond.methodLink RX2 60 yX0_parentOf, Cond.methodLink RL 26 yX3_cut, Cond.instanceMethod yX3_cut, Cond.selects RX3 yX3_cut yX3_cut, Cond.code yX3_cut cX3_cut 3 (some .int), Cond.constant RX3 53 (-100000007), Cond.methodLink RL 27 yX2_reroot, Cond.instanceMethod yX2_reroot, Cond.selects RX2 yX2_reroot yX2_reroot, Cond.code yX2_reroot cX2_reroot 3 (some .int), Cond.methodLink RX2 63 yX0_turnTowards, Cond.instanceMethod yX0_turnTowards, Cond.selects RX0 yX0_turnTowards yX0_turnTowards, Cond.code yX0_turnTowards cX0_turnTowards 7 none, Cond.methodLink RX0 67 yX0_putParent, Cond.methodLink RL 30 yX3_reroot, Cond.instanceMethod yX3_reroot, Cond.selects RX3 yX3_reroot yX3_reroot, Cond.code yX3_reroot cX3_reroot 6 (some .int), Cond.methodLink RL 31 yX2_vertexCount, Cond.instanceMethod yX2_vertexCount]
def wsL_law_r8 : List Cond := [Cond.selects RX2 yX2_vertexCount yX2_vertexCount, Cond.code yX2_vertexCount cX2_vertexCount 1 (some .int), Cond.methodLink RL 35 yX3_vertexCount, Cond.instanceMethod yX3_vertexCount, Cond.selects RX3 yX3_vertexCount yX3_vertexCount, Cond.code yX3_vertexCount cX3_vertexCount 1 (some .int), Cond.methodLink RL 36 yX2_treeCount, Cond.instanceMethod yX2_treeCount, Cond.selects RX2 yX2_treeCount yX2_treeCount, Cond.code yX2_treeCount cX2_treeCount 1 (some .int), Cond.methodLink RX2 66 yX0_countRoots, Cond.instanceMethod yX0_countRoots, Cond.selects RX0 yX0_countRoots yX0_countRoots, Cond.code yX0_countRoots cX0_countRoots 3 (some .int), Cond.methodLink RX0 41 yX0_isRoot, Cond.methodLink RL 39 yX3_treeCount, Cond.instanceMethod yX3_treeCount, Cond.selects RX3 yX3_treeCount yX3_treeCount, Cond.code yX3_treeCount cX3_treeCount 3 (some .int), Cond.methodLink RL 40 yX2_parent, Cond.instanceMethod yX2_parent, Cond.selects RX2 yX2_parent yX2_parent, Cond.code yX2_parent cX2_parent 2 (some .int), Cond.methodLink RL 43 yX3_parent]
def wsL_law_r9 : List Cond := [Cond.instanceMethod yX3_parent, Cond.selects RX3 yX3_parent yX3_parent, Cond.code yX3_parent cX3_parent 2 (some .int), Cond.methodLink RL 44 yX2_root, Cond.instanceMethod yX2_root, Cond.selects RX2 yX2_root yX2_root, Cond.code yX2_root cX2_root 2 (some .int), Cond.methodLink RL 47 yX3_root, Cond.instanceMethod yX3_root, Cond.selects RX3 yX3_root yX3_root, Cond.code yX3_root cX3_root 2 (some .int), Cond.methodLink RL 48 yX2_depth, Cond.instanceMethod yX2_depth, Cond.selects RX2 yX2_depth yX2_depth, Cond.code yX2_depth cX2_depth 2 (some .int), Cond.methodLink RX2 69 yX0_depthOf, Cond.methodLink RL 51 yX3_depth, Cond.instanceMethod yX3_depth, Cond.selects RX3 yX3_depth yX3_depth, Cond.code yX3_depth cX3_depth 2 (some .int), Cond.methodLink RX3 54 yX3_depthOf, Cond.instanceMethod yX3_depthOf, Cond.selects RX3 yX3_depthOf yX3_depthOf, Cond.code yX3_depthOf cX3_depthOf 4 (some .int)]
def wsL_law_r10 : List Cond := [Cond.methodLink RL 52 yX2_connected, Cond.instanceMethod yX2_connected, Cond.selects RX2 yX2_connected yX2_connected, Cond.code yX2_connected cX2_connected 3 (some .int), Cond.methodLink RL 55 yX3_connected, Cond.instanceMethod yX3_connected, Cond.selects RX3 yX3_connected yX3_connected, Cond.code yX3_connected cX3_connected 3 (some .int), Cond.methodLink RL 56 yX2_commonAncestor, Cond.instanceMethod yX2_commonAncestor, Cond.selects RX2 yX2_commonAncestor yX2_commonAncestor, Cond.code yX2_commonAncestor cX2_commonAncestor 4 (some .int), Cond.methodLink RX2 72 yX2_pathError, Cond.instanceMethod yX2_pathError, Cond.selects RX2 yX2_pathError yX2_pathError, Cond.code yX2_pathError cX2_pathError 3 (some .int), Cond.constant RX2 138 (-100000004), Cond.methodLink RX2 76 yX0_meetingPoint, Cond.instanceMethod yX0_meetingPoint, Cond.selects RX0 yX0_meetingPoint yX0_meetingPoint, Cond.code yX0_meetingPoint cX0_meetingPoint 7 (some .int), Cond.methodLink RL 59 yX3_commonAncestor, Cond.instanceMethod yX3_commonAncestor, Cond.selects RX3 yX3_commonAncestor yX3_commonAncestor]
def wsL_law_r11 : List Cond := [Cond.code yX3_commonAncestor cX3_commonAncestor 4 (some .int), Cond.methodLink RX3 66 yX3_wrongPair, Cond.instanceMethod yX3_wrongPair, Cond.selects RX3 yX3_wrongPair yX3_wrongPair, Cond.code yX3_wrongPair cX3_wrongPair 3 (some .int), Cond.constant RX3 57 (-100000004), Cond.methodLink RX3 58 yX3_meetingOf, Cond.instanceMethod yX3_meetingOf, Cond.selects RX3 yX3_meetingOf yX3_meetingOf, Cond.code yX3_meetingOf cX3_meetingOf 5 (some .int), Cond.methodLink RL 60 yX2_distance, Cond.instanceMethod yX2_distance, Cond.selects RX2 yX2_distance yX2_distance, Cond.code yX2_distance cX2_distance 4 (some .int), Cond.methodLink RX2 79 yX0_edgesBetween, Cond.instanceMethod yX0_edgesBetween, Cond.selects RX0 yX0_edgesBetween yX0_edgesBetween, Cond.code yX0_edgesBetween cX0_edgesBetween 3 (some .int), Cond.methodLink RX0 55 yX0_meetingPoint, Cond.methodLink RL 63 yX3_distance, Cond.instanceMethod yX3_distance, Cond.selects RX3 yX3_distance yX3_distance, Cond.code yX3_distance cX3_distance 4 (some .int), Cond.methodLink RX3 69 yX3_distanceOf]
def wsL_law_r12 : List Cond := [Cond.instanceMethod yX3_distanceOf, Cond.selects RX3 yX3_distanceOf yX3_distanceOf, Cond.code yX3_distanceOf cX3_distanceOf 3 (some .int), Cond.methodLink RL 64 yX2_pathVertex, Cond.instanceMethod yX2_pathVertex, Cond.selects RX2 yX2_pathVertex yX2_pathVertex, Cond.code yX2_pathVertex cX2_pathVertex 5 (some .int), Cond.methodLink RX2 82 yX2_tracePath, Cond.instanceMethod yX2_tracePath, Cond.selects RX2 yX2_tracePath yX2_tracePath, Cond.code yX2_tracePath cX2_tracePath 4 (some .int), Cond.methodLink RX2 139 yX1_trace, Cond.instanceMethod yX1_trace, Cond.selects RX1 yX1_trace yX1_trace, Cond.code yX1_trace cX1_trace 6 none, Cond.methodLink RX1 23 yX0_meetingPoint, Cond.methodLink RX1 29 yX1_appendClimb, Cond.instanceMethod yX1_appendClimb, Cond.selects RX1 yX1_appendClimb yX1_appendClimb, Cond.code yX1_appendClimb cX1_appendClimb 6 none, Cond.methodLink RX1 33 yX1_append, Cond.instanceMethod yX1_append, Cond.selects RX1 yX1_append yX1_append, Cond.code yX1_append cX1_append 2 none]
def wsL_law_r13 : List Cond := [Cond.methodLink RX1 40 yX0_parentOf, Cond.methodLink RX1 37 yX1_reverseFrom, Cond.instanceMethod yX1_reverseFrom, Cond.selects RX1 yX1_reverseFrom yX1_reverseFrom, Cond.code yX1_reverseFrom cX1_reverseFrom 4 none, Cond.methodLink RX1 44 yX1_swap, Cond.instanceMethod yX1_swap, Cond.selects RX1 yX1_swap yX1_swap, Cond.code yX1_swap cX1_swap 4 none, Cond.methodLink RX1 19 yX1_hasIndex, Cond.instanceMethod yX1_hasIndex, Cond.selects RX1 yX1_hasIndex yX1_hasIndex, Cond.code yX1_hasIndex cX1_hasIndex 2 (some .boolean), Cond.methodLink RX2 85 yX1_hasIndex, Cond.methodLink RX2 88 yX1_vertexAt, Cond.instanceMethod yX1_vertexAt, Cond.selects RX1 yX1_vertexAt yX1_vertexAt, Cond.code yX1_vertexAt cX1_vertexAt 2 (some .int), Cond.methodLink RL 68 yX3_pathVertex, Cond.instanceMethod yX3_pathVertex, Cond.selects RX3 yX3_pathVertex yX3_pathVertex, Cond.code yX3_pathVertex cX3_pathVertex 5 (some .int), Cond.fieldLink RX3 62 "DynamicForestModel" "pathMany" "I", Cond.methodLink RX3 72 yX3_layPath]
def wsL_law_r14 : List Cond := [Cond.instanceMethod yX3_layPath, Cond.selects RX3 yX3_layPath yX3_layPath, Cond.code yX3_layPath cX3_layPath 6 none, Cond.methodLink RL 69 yX2_pathSum, Cond.instanceMethod yX2_pathSum, Cond.selects RX2 yX2_pathSum yX2_pathSum, Cond.code yX2_pathSum cX2_pathSum 6 (some .int), Cond.methodLink RX2 91 yX1_length, Cond.instanceMethod yX1_length, Cond.selects RX1 yX1_length yX1_length, Cond.code yX1_length cX1_length 1 (some .int), Cond.methodLink RX2 94 yX0_valueOf, Cond.instanceMethod yX0_valueOf, Cond.selects RX0 yX0_valueOf yX0_valueOf, Cond.code yX0_valueOf cX0_valueOf 2 (some .int), Cond.methodLink RL 72 yX3_pathSum, Cond.instanceMethod yX3_pathSum, Cond.selects RX3 yX3_pathSum yX3_pathSum, Cond.code yX3_pathSum cX3_pathSum 6 (some .int), Cond.methodLink RX3 76 yX3_valueOf, Cond.instanceMethod yX3_valueOf, Cond.selects RX3 yX3_valueOf yX3_valueOf, Cond.code yX3_valueOf cX3_valueOf 2 (some .int), Cond.methodLink RL 73 yX2_pathMinimum]
def wsL_law_r15 : List Cond := [Cond.instanceMethod yX2_pathMinimum, Cond.selects RX2 yX2_pathMinimum yX2_pathMinimum, Cond.code yX2_pathMinimum cX2_pathMinimum 6 (some .int), Cond.methodLink RL 76 yX3_pathMinimum, Cond.instanceMethod yX3_pathMinimum, Cond.selects RX3 yX3_pathMinimum yX3_pathMinimum, Cond.code yX3_pathMinimum cX3_pathMinimum 4 (some .int), Cond.methodLink RX3 79 yX3_farthest, Cond.instanceMethod yX3_farthest, Cond.selects RX3 yX3_farthest yX3_farthest, Cond.code yX3_farthest cX3_farthest 4 (some .int), Cond.methodLink RL 77 yX2_pathMaximum, Cond.instanceMethod yX2_pathMaximum, Cond.selects RX2 yX2_pathMaximum yX2_pathMaximum, Cond.code yX2_pathMaximum cX2_pathMaximum 6 (some .int), Cond.methodLink RL 80 yX3_pathMaximum, Cond.instanceMethod yX3_pathMaximum, Cond.selects RX3 yX3_pathMaximum yX3_pathMaximum, Cond.code yX3_pathMaximum cX3_pathMaximum 4 (some .int), Cond.methodLink RL 81 yX2_reach, Cond.instanceMethod yX2_reach, Cond.selects RX2 yX2_reach yX2_reach, Cond.code yX2_reach cX2_reach 7 (some .int), Cond.methodLink RL 84 yX3_reach]
def wsL_law_r16 : List Cond := [Cond.instanceMethod yX3_reach, Cond.selects RX3 yX3_reach yX3_reach, Cond.code yX3_reach cX3_reach 7 (some .int), Cond.methodLink RL 85 yX2_addOnPath, Cond.instanceMethod yX2_addOnPath, Cond.selects RX2 yX2_addOnPath yX2_addOnPath, Cond.code yX2_addOnPath cX2_addOnPath 7 (some .int), Cond.constant RX2 100 (-100000005), Cond.methodLink RX2 97 yX2_isValue, Cond.static yX2_isValue, Cond.code yX2_isValue cX2_isValue 1 (some .boolean), Cond.constant RX2 136 (-1000000), Cond.constant RX2 137 (1000000), Cond.methodLink RX2 101 yX0_putValue, Cond.instanceMethod yX0_putValue, Cond.selects RX0 yX0_putValue yX0_putValue, Cond.code yX0_putValue cX0_putValue 3 none, Cond.methodLink RL 88 yX3_addOnPath, Cond.instanceMethod yX3_addOnPath, Cond.selects RX3 yX3_addOnPath yX3_addOnPath, Cond.code yX3_addOnPath cX3_addOnPath 6 (some .int), Cond.constant RX3 87 (-100000005), Cond.methodLink RX3 84 yX3_isValue, Cond.static yX3_isValue]
def wsL_law_r17 : List Cond := [Cond.code yX3_isValue cX3_isValue 1 (some .boolean), Cond.constant RX3 82 (-1000000), Cond.constant RX3 83 (1000000), Cond.methodLink RL 89 yX2_setOnPath, Cond.instanceMethod yX2_setOnPath, Cond.selects RX2 yX2_setOnPath yX2_setOnPath, Cond.code yX2_setOnPath cX2_setOnPath 6 (some .int), Cond.methodLink RL 92 yX3_setOnPath, Cond.instanceMethod yX3_setOnPath, Cond.selects RX3 yX3_setOnPath yX3_setOnPath, Cond.code yX3_setOnPath cX3_setOnPath 6 (some .int), Cond.methodLink RL 93 yX2_reverseValues, Cond.instanceMethod yX2_reverseValues, Cond.selects RX2 yX2_reverseValues yX2_reverseValues, Cond.code yX2_reverseValues cX2_reverseValues 6 (some .int), Cond.methodLink RX2 104 yX0_swapValues, Cond.instanceMethod yX0_swapValues, Cond.selects RX0 yX0_swapValues yX0_swapValues, Cond.code yX0_swapValues cX0_swapValues 4 none, Cond.methodLink RX0 34 yX0_valueOf, Cond.methodLink RX0 37 yX0_putValue, Cond.methodLink RL 96 yX3_reverseValues, Cond.instanceMethod yX3_reverseValues, Cond.selects RX3 yX3_reverseValues yX3_reverseValues]
def wsL_law_r18 : List Cond := [Cond.code yX3_reverseValues cX3_reverseValues 8 (some .int), Cond.methodLink RL 97 yX2_subtreeSize, Cond.instanceMethod yX2_subtreeSize, Cond.selects RX2 yX2_subtreeSize yX2_subtreeSize, Cond.code yX2_subtreeSize cX2_subtreeSize 2 (some .int), Cond.methodLink RL 100 yX3_subtreeSize, Cond.instanceMethod yX3_subtreeSize, Cond.selects RX3 yX3_subtreeSize yX3_subtreeSize, Cond.code yX3_subtreeSize cX3_subtreeSize 4 (some .int), Cond.methodLink RX3 88 yX3_isUnder, Cond.instanceMethod yX3_isUnder, Cond.selects RX3 yX3_isUnder yX3_isUnder, Cond.code yX3_isUnder cX3_isUnder 4 (some .boolean), Cond.methodLink RL 101 yX2_subtreeSum, Cond.instanceMethod yX2_subtreeSum, Cond.selects RX2 yX2_subtreeSum yX2_subtreeSum, Cond.code yX2_subtreeSum cX2_subtreeSum 4 (some .int), Cond.methodLink RX2 107 yX0_isBelow, Cond.methodLink RL 104 yX3_subtreeSum, Cond.instanceMethod yX3_subtreeSum, Cond.selects RX3 yX3_subtreeSum yX3_subtreeSum, Cond.code yX3_subtreeSum cX3_subtreeSum 4 (some .int), Cond.methodLink RL 105 yX2_addInSubtree, Cond.instanceMethod yX2_addInSubtree]
def wsL_law_r19 : List Cond := [Cond.selects RX2 yX2_addInSubtree yX2_addInSubtree, Cond.code yX2_addInSubtree cX2_addInSubtree 4 (some .int), Cond.methodLink RL 108 yX3_addInSubtree, Cond.instanceMethod yX3_addInSubtree, Cond.selects RX3 yX3_addInSubtree yX3_addInSubtree, Cond.code yX3_addInSubtree cX3_addInSubtree 5 (some .int), Cond.methodLink RL 109 yX2_diameter, Cond.instanceMethod yX2_diameter, Cond.selects RX2 yX2_diameter yX2_diameter, Cond.code yX2_diameter cX2_diameter 3 (some .int), Cond.methodLink RX2 111 yX0_farthestFrom, Cond.instanceMethod yX0_farthestFrom, Cond.selects RX0 yX0_farthestFrom yX0_farthestFrom, Cond.code yX0_farthestFrom cX0_farthestFrom 7 (some .int), Cond.methodLink RX0 58 yX0_rootOf, Cond.methodLink RX0 61 yX0_edgesBetween, Cond.methodLink RL 112 yX3_diameter, Cond.instanceMethod yX3_diameter, Cond.selects RX3 yX3_diameter yX3_diameter, Cond.code yX3_diameter cX3_diameter 7 (some .int), Cond.methodLink RL 113 yX2_setValue, Cond.instanceMethod yX2_setValue, Cond.selects RX2 yX2_setValue yX2_setValue, Cond.code yX2_setValue cX2_setValue 4 (some .int)]
def wsL_law_r20 : List Cond := [Cond.methodLink RL 116 yX3_setValue, Cond.instanceMethod yX3_setValue, Cond.selects RX3 yX3_setValue yX3_setValue, Cond.code yX3_setValue cX3_setValue 4 (some .int), Cond.methodLink RL 117 yX2_value, Cond.instanceMethod yX2_value, Cond.selects RX2 yX2_value yX2_value, Cond.code yX2_value cX2_value 2 (some .int), Cond.methodLink RL 120 yX3_value, Cond.instanceMethod yX3_value, Cond.selects RX3 yX3_value yX3_value, Cond.code yX3_value cX3_value 2 (some .int), Cond.methodLink RL 121 yX2_setMark, Cond.instanceMethod yX2_setMark, Cond.selects RX2 yX2_setMark yX2_setMark, Cond.code yX2_setMark cX2_setMark 4 (some .int), Cond.methodLink RX2 114 yX0_isMarked, Cond.instanceMethod yX0_isMarked, Cond.selects RX0 yX0_isMarked yX0_isMarked, Cond.code yX0_isMarked cX0_isMarked 2 (some .boolean), Cond.methodLink RX2 117 yX0_putMark, Cond.instanceMethod yX0_putMark, Cond.selects RX0 yX0_putMark yX0_putMark, Cond.code yX0_putMark cX0_putMark 3 none]
def wsL_law_r21 : List Cond := [Cond.methodLink RL 125 yX3_setMark, Cond.instanceMethod yX3_setMark, Cond.selects RX3 yX3_setMark yX3_setMark, Cond.code yX3_setMark cX3_setMark 4 (some .int), Cond.methodLink RL 126 yX2_nearestMarked, Cond.instanceMethod yX2_nearestMarked, Cond.selects RX2 yX2_nearestMarked yX2_nearestMarked, Cond.code yX2_nearestMarked cX2_nearestMarked 3 (some .int), Cond.methodLink RX2 121 yX0_nearestMarkOf, Cond.instanceMethod yX0_nearestMarkOf, Cond.selects RX0 yX0_nearestMarkOf yX0_nearestMarkOf, Cond.code yX0_nearestMarkOf cX0_nearestMarkOf 8 (some .int), Cond.methodLink RX0 64 yX0_isMarked, Cond.methodLink RL 129 yX3_nearestMarked, Cond.instanceMethod yX3_nearestMarked, Cond.selects RX3 yX3_nearestMarked yX3_nearestMarked, Cond.code yX3_nearestMarked cX3_nearestMarked 6 (some .int), Cond.methodLink RL 130 yX2_save, Cond.instanceMethod yX2_save, Cond.selects RX2 yX2_save yX2_save, Cond.code yX2_save cX2_save 2 (some .int), Cond.methodLink RX2 124 yX2_isSlot, Cond.static yX2_isSlot, Cond.code yX2_isSlot cX2_isSlot 1 (some .boolean)]
def wsL_law_r22 : List Cond := [Cond.methodLink RX2 127 yX2_slotAt, Cond.instanceMethod yX2_slotAt, Cond.selects RX2 yX2_slotAt yX2_slotAt, Cond.code yX2_slotAt cX2_slotAt 2 (some (.object "DynamicForest$Forest")), Cond.methodLink RX2 131 yX0_copyFrom, Cond.instanceMethod yX0_copyFrom, Cond.selects RX0 yX0_copyFrom yX0_copyFrom, Cond.code yX0_copyFrom cX0_copyFrom 3 none, Cond.methodLink RL 133 yX3_save, Cond.instanceMethod yX3_save, Cond.selects RX3 yX3_save yX3_save, Cond.code yX3_save cX3_save 3 (some .int), Cond.methodLink RL 134 yX2_restore, Cond.instanceMethod yX2_restore, Cond.selects RX2 yX2_restore yX2_restore, Cond.code yX2_restore cX2_restore 3 (some .int), Cond.constant RX2 135 (-100000006), Cond.methodLink RL 137 yX3_restore, Cond.instanceMethod yX3_restore, Cond.selects RX3 yX3_restore yX3_restore, Cond.code yX3_restore cX3_restore 3 (some .int), Cond.constant RX3 92 (-100000006)]
def wsL_law : List Cond := (wsL_law_r1 ++ (wsL_law_r2 ++ (wsL_law_r3 ++ (wsL_law_r4 ++ (wsL_law_r5 ++ (wsL_law_r6 ++ (wsL_law_r7 ++ (wsL_law_r8 ++ (wsL_law_r9 ++ (wsL_law_r10 ++ (wsL_law_r11 ++ (wsL_law_r12 ++ (wsL_law_r13 ++ (wsL_law_r14 ++ (wsL_law_r15 ++ (wsL_law_r16 ++ (wsL_law_r17 ++ (wsL_law_r18 ++ (wsL_law_r19 ++ (wsL_law_r20 ++ (wsL_law_r21 ++ wsL_law_r22))))))))))))))))))))) ++ wsX20 ++ wsX30 ++ wsX00 ++ wsX10 ++ ([] : List Cond)
abbrev vwCl : List vw_C := [(RX0, TX0, 4), (RX1, TX1, 2), (RX2, TX2, 4), (RX3, TX3, 5)]
end
section
set_option maxRecDepth 20000 in
theorem wsL_in_1 : ∀ w ∈ wsL_law_r1, w ∈ lw_tbl := List.forall_mem_cons.mpr ⟨List.mem_of_getElem? (i := 26) (by decide +kernel), List.forall_mem_cons.mpr ⟨List.mem_of_getElem? (i := 27) (by decide +kernel), List.forall_mem_cons.mpr ⟨List.mem_of_getElem? (i := 22) (by decide +kernel), List.forall_mem_cons.mpr ⟨List.mem_of_getElem? (i := 368) (by decide +kernel), List.forall_mem_cons.mpr ⟨List.mem_of_getElem? (i := 369) (by decide +kernel), List.forall_mem_cons.mpr ⟨List.mem_of_getElem? (i := 25) (by decide +kernel), List.forall_mem_cons.mpr ⟨List.mem_of_getElem? (i := 28) (by decide +kernel), List.forall_mem_cons.mpr ⟨List.mem_of_getElem? (i := 29) (by decide +kernel), List.forall_mem_cons.mpr ⟨List.mem_of_getElem? (i := 30) (by decide +kernel), List.forall_mem_cons.mpr ⟨List.mem_of_getElem? (i := 31) (by decide +kernel), List.forall_mem_cons.mpr ⟨List.mem_of_getElem? (i := 32) (by decide +kernel), List.forall_mem_cons.mpr ⟨List.mem_of_getElem? (i := 33) (by decide +kernel), List.forall_mem_cons.mpr ⟨List.mem_of_getElem? (i := 34) (by decide +kernel), List.forall_mem_cons.mpr ⟨List.mem_of_getElem? (i := 35) (by decide +kernel), List.forall_mem_cons.mpr ⟨List.mem_of_getElem? (i := 23) (by decide +kernel), List.forall_mem_cons.mpr ⟨List.mem_of_getElem? (i := 72) (by decide +kernel), List.forall_mem_cons.mpr ⟨List.mem_of_getElem? (i := 73) (by decide +kernel), List.forall_mem_cons.mpr ⟨List.mem_of_getElem? (i := 74) (by decide +kernel), List.forall_mem_cons.mpr ⟨List.mem_of_getElem? (i := 55) (by decide +kernel), List.forall_mem_cons.mpr ⟨List.mem_of_getElem? (i := 56) (by decide +kernel), List.forall_mem_cons.mpr ⟨List.mem_of_getElem? (i := 24) (by decide +kernel), List.forall_mem_cons.mpr ⟨List.mem_of_getElem? (i := 75) (by decide +kernel), List.forall_mem_cons.mpr ⟨List.mem_of_getElem? (i := 36) (by decide +kernel), List.forall_mem_cons.mpr ⟨List.mem_of_getElem? (i := 37) (by decide +kernel), fun _ h => absurd h List.not_mem_nil⟩⟩⟩⟩⟩⟩⟩⟩⟩⟩⟩⟩⟩⟩⟩⟩⟩⟩⟩⟩⟩⟩⟩⟩
set_option maxRecDepth 20000 in
theorem wsL_in_2 : ∀ w ∈ wsL_law_r2, w ∈ lw_tbl := List.forall_mem_cons.mpr ⟨List.mem_of_getElem? (i := 38) (by decide +kernel), List.forall_mem_cons.mpr ⟨List.mem_of_getElem? (i := 39) (by decide +kernel), List.forall_mem_cons.mpr ⟨List.mem_of_getElem? (i := 40) (by decide +kernel), List.forall_mem_cons.mpr ⟨List.mem_of_getElem? (i := 53) (by decide +kernel), List.forall_mem_cons.mpr ⟨List.mem_of_getElem? (i := 41) (by decide +kernel), List.forall_mem_cons.mpr ⟨List.mem_of_getElem? (i := 42) (by decide +kernel), List.forall_mem_cons.mpr ⟨List.mem_of_getElem? (i := 54) (by decide +kernel), List.forall_mem_cons.mpr ⟨List.mem_of_getElem? (i := 43) (by decide +kernel), List.forall_mem_cons.mpr ⟨List.mem_of_getElem? (i := 57) (by decide +kernel), List.forall_mem_cons.mpr ⟨List.mem_of_getElem? (i := 58) (by decide +kernel), List.forall_mem_cons.mpr ⟨List.mem_of_getElem? (i := 59) (by decide +kernel), List.forall_mem_cons.mpr ⟨List.mem_of_getElem? (i := 60) (by decide +kernel), List.forall_mem_cons.mpr ⟨List.mem_of_getElem? (i := 61) (by decide +kernel), List.forall_mem_cons.mpr ⟨List.mem_of_getElem? (i := 62) (by decide +kernel), List.forall_mem_cons.mpr ⟨List.mem_of_getElem? (i := 68) (by decide +kernel), List.forall_mem_cons.mpr ⟨List.mem_of_getElem? (i := 69) (by decide +kernel), List.forall_mem_cons.mpr ⟨List.mem_of_getElem? (i := 70) (by decide +kernel), List.forall_mem_cons.mpr ⟨List.mem_of_getElem? (i := 71) (by decide +kernel), List.forall_mem_cons.mpr ⟨List.mem_of_getElem? (i := 370) (by decide +kernel), List.forall_mem_cons.mpr ⟨List.mem_of_getElem? (i := 371) (by decide +kernel), List.forall_mem_cons.mpr ⟨List.mem_of_getElem? (i := 372) (by decide +kernel), List.forall_mem_cons.mpr ⟨List.mem_of_getElem? (i := 373) (by decide +kernel), List.forall_mem_cons.mpr ⟨List.mem_of_getElem? (i := 378) (by decide +kernel), List.forall_mem_cons.mpr ⟨List.mem_of_getElem? (i := 379) (by decide +kernel), fun _ h => absurd h List.not_mem_nil⟩⟩⟩⟩⟩⟩⟩⟩⟩⟩⟩⟩⟩⟩⟩⟩⟩⟩⟩⟩⟩⟩⟩⟩
set_option maxRecDepth 20000 in
theorem wsL_in_3 : ∀ w ∈ wsL_law_r3, w ∈ lw_tbl := List.forall_mem_cons.mpr ⟨List.mem_of_getElem? (i := 380) (by decide +kernel), List.forall_mem_cons.mpr ⟨List.mem_of_getElem? (i := 381) (by decide +kernel), List.forall_mem_cons.mpr ⟨List.mem_of_getElem? (i := 374) (by decide +kernel), List.forall_mem_cons.mpr ⟨List.mem_of_getElem? (i := 376) (by decide +kernel), List.forall_mem_cons.mpr ⟨List.mem_of_getElem? (i := 7) (by decide +kernel), List.forall_mem_cons.mpr ⟨List.mem_of_getElem? (i := 377) (by decide +kernel), List.forall_mem_cons.mpr ⟨List.mem_of_getElem? (i := 85) (by decide +kernel), List.forall_mem_cons.mpr ⟨List.mem_of_getElem? (i := 86) (by decide +kernel), List.forall_mem_cons.mpr ⟨List.mem_of_getElem? (i := 87) (by decide +kernel), List.forall_mem_cons.mpr ⟨List.mem_of_getElem? (i := 88) (by decide +kernel), List.forall_mem_cons.mpr ⟨List.mem_of_getElem? (i := 89) (by decide +kernel), List.forall_mem_cons.mpr ⟨List.mem_of_getElem? (i := 90) (by decide +kernel), List.forall_mem_cons.mpr ⟨List.mem_of_getElem? (i := 91) (by decide +kernel), List.forall_mem_cons.mpr ⟨List.mem_of_getElem? (i := 92) (by decide +kernel), List.forall_mem_cons.mpr ⟨List.mem_of_getElem? (i := 93) (by decide +kernel), List.forall_mem_cons.mpr ⟨List.mem_of_getElem? (i := 394) (by decide +kernel), List.forall_mem_cons.mpr ⟨List.mem_of_getElem? (i := 395) (by decide +kernel), List.forall_mem_cons.mpr ⟨List.mem_of_getElem? (i := 396) (by decide +kernel), List.forall_mem_cons.mpr ⟨List.mem_of_getElem? (i := 397) (by decide +kernel), List.forall_mem_cons.mpr ⟨List.mem_of_getElem? (i := 401) (by decide +kernel), List.forall_mem_cons.mpr ⟨List.mem_of_getElem? (i := 398) (by decide +kernel), List.forall_mem_cons.mpr ⟨List.mem_of_getElem? (i := 399) (by decide +kernel), List.forall_mem_cons.mpr ⟨List.mem_of_getElem? (i := 400) (by decide +kernel), List.forall_mem_cons.mpr ⟨List.mem_of_getElem? (i := 402) (by decide +kernel), fun _ h => absurd h List.not_mem_nil⟩⟩⟩⟩⟩⟩⟩⟩⟩⟩⟩⟩⟩⟩⟩⟩⟩⟩⟩⟩⟩⟩⟩⟩
set_option maxRecDepth 20000 in
theorem wsL_in_4 : ∀ w ∈ wsL_law_r4, w ∈ lw_tbl := List.forall_mem_cons.mpr ⟨List.mem_of_getElem? (i := 404) (by decide +kernel), List.forall_mem_cons.mpr ⟨List.mem_of_getElem? (i := 8) (by decide +kernel), List.forall_mem_cons.mpr ⟨List.mem_of_getElem? (i := 405) (by decide +kernel), List.forall_mem_cons.mpr ⟨List.mem_of_getElem? (i := 94) (by decide +kernel), List.forall_mem_cons.mpr ⟨List.mem_of_getElem? (i := 95) (by decide +kernel), List.forall_mem_cons.mpr ⟨List.mem_of_getElem? (i := 96) (by decide +kernel), List.forall_mem_cons.mpr ⟨List.mem_of_getElem? (i := 97) (by decide +kernel), List.forall_mem_cons.mpr ⟨List.mem_of_getElem? (i := 102) (by decide +kernel), List.forall_mem_cons.mpr ⟨List.mem_of_getElem? (i := 112) (by decide +kernel), List.forall_mem_cons.mpr ⟨List.mem_of_getElem? (i := 125) (by decide +kernel), List.forall_mem_cons.mpr ⟨List.mem_of_getElem? (i := 98) (by decide +kernel), List.forall_mem_cons.mpr ⟨List.mem_of_getElem? (i := 99) (by decide +kernel), List.forall_mem_cons.mpr ⟨List.mem_of_getElem? (i := 100) (by decide +kernel), List.forall_mem_cons.mpr ⟨List.mem_of_getElem? (i := 101) (by decide +kernel), List.forall_mem_cons.mpr ⟨List.mem_of_getElem? (i := 103) (by decide +kernel), List.forall_mem_cons.mpr ⟨List.mem_of_getElem? (i := 104) (by decide +kernel), List.forall_mem_cons.mpr ⟨List.mem_of_getElem? (i := 105) (by decide +kernel), List.forall_mem_cons.mpr ⟨List.mem_of_getElem? (i := 106) (by decide +kernel), List.forall_mem_cons.mpr ⟨List.mem_of_getElem? (i := 107) (by decide +kernel), List.forall_mem_cons.mpr ⟨List.mem_of_getElem? (i := 108) (by decide +kernel), List.forall_mem_cons.mpr ⟨List.mem_of_getElem? (i := 109) (by decide +kernel), List.forall_mem_cons.mpr ⟨List.mem_of_getElem? (i := 110) (by decide +kernel), List.forall_mem_cons.mpr ⟨List.mem_of_getElem? (i := 111) (by decide +kernel), List.forall_mem_cons.mpr ⟨List.mem_of_getElem? (i := 113) (by decide +kernel), fun _ h => absurd h List.not_mem_nil⟩⟩⟩⟩⟩⟩⟩⟩⟩⟩⟩⟩⟩⟩⟩⟩⟩⟩⟩⟩⟩⟩⟩⟩
set_option maxRecDepth 20000 in
theorem wsL_in_5 : ∀ w ∈ wsL_law_r5, w ∈ lw_tbl := List.forall_mem_cons.mpr ⟨List.mem_of_getElem? (i := 114) (by decide +kernel), List.forall_mem_cons.mpr ⟨List.mem_of_getElem? (i := 115) (by decide +kernel), List.forall_mem_cons.mpr ⟨List.mem_of_getElem? (i := 116) (by decide +kernel), List.forall_mem_cons.mpr ⟨List.mem_of_getElem? (i := 117) (by decide +kernel), List.forall_mem_cons.mpr ⟨List.mem_of_getElem? (i := 118) (by decide +kernel), List.forall_mem_cons.mpr ⟨List.mem_of_getElem? (i := 119) (by decide +kernel), List.forall_mem_cons.mpr ⟨List.mem_of_getElem? (i := 120) (by decide +kernel), List.forall_mem_cons.mpr ⟨List.mem_of_getElem? (i := 121) (by decide +kernel), List.forall_mem_cons.mpr ⟨List.mem_of_getElem? (i := 122) (by decide +kernel), List.forall_mem_cons.mpr ⟨List.mem_of_getElem? (i := 123) (by decide +kernel), List.forall_mem_cons.mpr ⟨List.mem_of_getElem? (i := 124) (by decide +kernel), List.forall_mem_cons.mpr ⟨List.mem_of_getElem? (i := 126) (by decide +kernel), List.forall_mem_cons.mpr ⟨List.mem_of_getElem? (i := 127) (by decide +kernel), List.forall_mem_cons.mpr ⟨List.mem_of_getElem? (i := 128) (by decide +kernel), List.forall_mem_cons.mpr ⟨List.mem_of_getElem? (i := 129) (by decide +kernel), List.forall_mem_cons.mpr ⟨List.mem_of_getElem? (i := 130) (by decide +kernel), List.forall_mem_cons.mpr ⟨List.mem_of_getElem? (i := 131) (by decide +kernel), List.forall_mem_cons.mpr ⟨List.mem_of_getElem? (i := 132) (by decide +kernel), List.forall_mem_cons.mpr ⟨List.mem_of_getElem? (i := 133) (by decide +kernel), List.forall_mem_cons.mpr ⟨List.mem_of_getElem? (i := 134) (by decide +kernel), List.forall_mem_cons.mpr ⟨List.mem_of_getElem? (i := 135) (by decide +kernel), List.forall_mem_cons.mpr ⟨List.mem_of_getElem? (i := 136) (by decide +kernel), List.forall_mem_cons.mpr ⟨List.mem_of_getElem? (i := 137) (by decide +kernel), List.forall_mem_cons.mpr ⟨List.mem_of_getElem? (i := 406) (by decide +kernel), fun _ h => absurd h List.not_mem_nil⟩⟩⟩⟩⟩⟩⟩⟩⟩⟩⟩⟩⟩⟩⟩⟩⟩⟩⟩⟩⟩⟩⟩⟩
set_option maxRecDepth 20000 in
theorem wsL_in_6 : ∀ w ∈ wsL_law_r6, w ∈ lw_tbl := List.forall_mem_cons.mpr ⟨List.mem_of_getElem? (i := 407) (by decide +kernel), List.forall_mem_cons.mpr ⟨List.mem_of_getElem? (i := 408) (by decide +kernel), List.forall_mem_cons.mpr ⟨List.mem_of_getElem? (i := 409) (by decide +kernel), List.forall_mem_cons.mpr ⟨List.mem_of_getElem? (i := 414) (by decide +kernel), List.forall_mem_cons.mpr ⟨List.mem_of_getElem? (i := 423) (by decide +kernel), List.forall_mem_cons.mpr ⟨List.mem_of_getElem? (i := 428) (by decide +kernel), List.forall_mem_cons.mpr ⟨List.mem_of_getElem? (i := 410) (by decide +kernel), List.forall_mem_cons.mpr ⟨List.mem_of_getElem? (i := 412) (by decide +kernel), List.forall_mem_cons.mpr ⟨List.mem_of_getElem? (i := 9) (by decide +kernel), List.forall_mem_cons.mpr ⟨List.mem_of_getElem? (i := 413) (by decide +kernel), List.forall_mem_cons.mpr ⟨List.mem_of_getElem? (i := 415) (by decide +kernel), List.forall_mem_cons.mpr ⟨List.mem_of_getElem? (i := 417) (by decide +kernel), List.forall_mem_cons.mpr ⟨List.mem_of_getElem? (i := 10) (by decide +kernel), List.forall_mem_cons.mpr ⟨List.mem_of_getElem? (i := 418) (by decide +kernel), List.forall_mem_cons.mpr ⟨List.mem_of_getElem? (i := 419) (by decide +kernel), List.forall_mem_cons.mpr ⟨List.mem_of_getElem? (i := 421) (by decide +kernel), List.forall_mem_cons.mpr ⟨List.mem_of_getElem? (i := 11) (by decide +kernel), List.forall_mem_cons.mpr ⟨List.mem_of_getElem? (i := 422) (by decide +kernel), List.forall_mem_cons.mpr ⟨List.mem_of_getElem? (i := 424) (by decide +kernel), List.forall_mem_cons.mpr ⟨List.mem_of_getElem? (i := 426) (by decide +kernel), List.forall_mem_cons.mpr ⟨List.mem_of_getElem? (i := 12) (by decide +kernel), List.forall_mem_cons.mpr ⟨List.mem_of_getElem? (i := 427) (by decide +kernel), List.forall_mem_cons.mpr ⟨List.mem_of_getElem? (i := 138) (by decide +kernel), List.forall_mem_cons.mpr ⟨List.mem_of_getElem? (i := 139) (by decide +kernel), fun _ h => absurd h List.not_mem_nil⟩⟩⟩⟩⟩⟩⟩⟩⟩⟩⟩⟩⟩⟩⟩⟩⟩⟩⟩⟩⟩⟩⟩⟩
set_option maxRecDepth 20000 in
theorem wsL_in_7 : ∀ w ∈ wsL_law_r7, w ∈ lw_tbl := List.forall_mem_cons.mpr ⟨List.mem_of_getElem? (i := 140) (by decide +kernel), List.forall_mem_cons.mpr ⟨List.mem_of_getElem? (i := 141) (by decide +kernel), List.forall_mem_cons.mpr ⟨List.mem_of_getElem? (i := 142) (by decide +kernel), List.forall_mem_cons.mpr ⟨List.mem_of_getElem? (i := 143) (by decide +kernel), List.forall_mem_cons.mpr ⟨List.mem_of_getElem? (i := 429) (by decide +kernel), List.forall_mem_cons.mpr ⟨List.mem_of_getElem? (i := 430) (by decide +kernel), List.forall_mem_cons.mpr ⟨List.mem_of_getElem? (i := 431) (by decide +kernel), List.forall_mem_cons.mpr ⟨List.mem_of_getElem? (i := 432) (by decide +kernel), List.forall_mem_cons.mpr ⟨List.mem_of_getElem? (i := 433) (by decide +kernel), List.forall_mem_cons.mpr ⟨List.mem_of_getElem? (i := 144) (by decide +kernel), List.forall_mem_cons.mpr ⟨List.mem_of_getElem? (i := 145) (by decide +kernel), List.forall_mem_cons.mpr ⟨List.mem_of_getElem? (i := 146) (by decide +kernel), List.forall_mem_cons.mpr ⟨List.mem_of_getElem? (i := 147) (by decide +kernel), List.forall_mem_cons.mpr ⟨List.mem_of_getElem? (i := 148) (by decide +kernel), List.forall_mem_cons.mpr ⟨List.mem_of_getElem? (i := 149) (by decide +kernel), List.forall_mem_cons.mpr ⟨List.mem_of_getElem? (i := 150) (by decide +kernel), List.forall_mem_cons.mpr ⟨List.mem_of_getElem? (i := 151) (by decide +kernel), List.forall_mem_cons.mpr ⟨List.mem_of_getElem? (i := 152) (by decide +kernel), List.forall_mem_cons.mpr ⟨List.mem_of_getElem? (i := 434) (by decide +kernel), List.forall_mem_cons.mpr ⟨List.mem_of_getElem? (i := 435) (by decide +kernel), List.forall_mem_cons.mpr ⟨List.mem_of_getElem? (i := 436) (by decide +kernel), List.forall_mem_cons.mpr ⟨List.mem_of_getElem? (i := 437) (by decide +kernel), List.forall_mem_cons.mpr ⟨List.mem_of_getElem? (i := 153) (by decide +kernel), List.forall_mem_cons.mpr ⟨List.mem_of_getElem? (i := 154) (by decide +kernel), fun _ h => absurd h List.not_mem_nil⟩⟩⟩⟩⟩⟩⟩⟩⟩⟩⟩⟩⟩⟩⟩⟩⟩⟩⟩⟩⟩⟩⟩⟩
set_option maxRecDepth 20000 in
theorem wsL_in_8 : ∀ w ∈ wsL_law_r8, w ∈ lw_tbl := List.forall_mem_cons.mpr ⟨List.mem_of_getElem? (i := 155) (by decide +kernel), List.forall_mem_cons.mpr ⟨List.mem_of_getElem? (i := 156) (by decide +kernel), List.forall_mem_cons.mpr ⟨List.mem_of_getElem? (i := 438) (by decide +kernel), List.forall_mem_cons.mpr ⟨List.mem_of_getElem? (i := 439) (by decide +kernel), List.forall_mem_cons.mpr ⟨List.mem_of_getElem? (i := 440) (by decide +kernel), List.forall_mem_cons.mpr ⟨List.mem_of_getElem? (i := 441) (by decide +kernel), List.forall_mem_cons.mpr ⟨List.mem_of_getElem? (i := 157) (by decide +kernel), List.forall_mem_cons.mpr ⟨List.mem_of_getElem? (i := 158) (by decide +kernel), List.forall_mem_cons.mpr ⟨List.mem_of_getElem? (i := 159) (by decide +kernel), List.forall_mem_cons.mpr ⟨List.mem_of_getElem? (i := 160) (by decide +kernel), List.forall_mem_cons.mpr ⟨List.mem_of_getElem? (i := 161) (by decide +kernel), List.forall_mem_cons.mpr ⟨List.mem_of_getElem? (i := 162) (by decide +kernel), List.forall_mem_cons.mpr ⟨List.mem_of_getElem? (i := 163) (by decide +kernel), List.forall_mem_cons.mpr ⟨List.mem_of_getElem? (i := 164) (by decide +kernel), List.forall_mem_cons.mpr ⟨List.mem_of_getElem? (i := 165) (by decide +kernel), List.forall_mem_cons.mpr ⟨List.mem_of_getElem? (i := 442) (by decide +kernel), List.forall_mem_cons.mpr ⟨List.mem_of_getElem? (i := 443) (by decide +kernel), List.forall_mem_cons.mpr ⟨List.mem_of_getElem? (i := 444) (by decide +kernel), List.forall_mem_cons.mpr ⟨List.mem_of_getElem? (i := 445) (by decide +kernel), List.forall_mem_cons.mpr ⟨List.mem_of_getElem? (i := 166) (by decide +kernel), List.forall_mem_cons.mpr ⟨List.mem_of_getElem? (i := 167) (by decide +kernel), List.forall_mem_cons.mpr ⟨List.mem_of_getElem? (i := 168) (by decide +kernel), List.forall_mem_cons.mpr ⟨List.mem_of_getElem? (i := 169) (by decide +kernel), List.forall_mem_cons.mpr ⟨List.mem_of_getElem? (i := 446) (by decide +kernel), fun _ h => absurd h List.not_mem_nil⟩⟩⟩⟩⟩⟩⟩⟩⟩⟩⟩⟩⟩⟩⟩⟩⟩⟩⟩⟩⟩⟩⟩⟩
set_option maxRecDepth 20000 in
theorem wsL_in_9 : ∀ w ∈ wsL_law_r9, w ∈ lw_tbl := List.forall_mem_cons.mpr ⟨List.mem_of_getElem? (i := 447) (by decide +kernel), List.forall_mem_cons.mpr ⟨List.mem_of_getElem? (i := 448) (by decide +kernel), List.forall_mem_cons.mpr ⟨List.mem_of_getElem? (i := 449) (by decide +kernel), List.forall_mem_cons.mpr ⟨List.mem_of_getElem? (i := 170) (by decide +kernel), List.forall_mem_cons.mpr ⟨List.mem_of_getElem? (i := 171) (by decide +kernel), List.forall_mem_cons.mpr ⟨List.mem_of_getElem? (i := 172) (by decide +kernel), List.forall_mem_cons.mpr ⟨List.mem_of_getElem? (i := 173) (by decide +kernel), List.forall_mem_cons.mpr ⟨List.mem_of_getElem? (i := 450) (by decide +kernel), List.forall_mem_cons.mpr ⟨List.mem_of_getElem? (i := 451) (by decide +kernel), List.forall_mem_cons.mpr ⟨List.mem_of_getElem? (i := 452) (by decide +kernel), List.forall_mem_cons.mpr ⟨List.mem_of_getElem? (i := 453) (by decide +kernel), List.forall_mem_cons.mpr ⟨List.mem_of_getElem? (i := 174) (by decide +kernel), List.forall_mem_cons.mpr ⟨List.mem_of_getElem? (i := 175) (by decide +kernel), List.forall_mem_cons.mpr ⟨List.mem_of_getElem? (i := 176) (by decide +kernel), List.forall_mem_cons.mpr ⟨List.mem_of_getElem? (i := 177) (by decide +kernel), List.forall_mem_cons.mpr ⟨List.mem_of_getElem? (i := 178) (by decide +kernel), List.forall_mem_cons.mpr ⟨List.mem_of_getElem? (i := 454) (by decide +kernel), List.forall_mem_cons.mpr ⟨List.mem_of_getElem? (i := 455) (by decide +kernel), List.forall_mem_cons.mpr ⟨List.mem_of_getElem? (i := 456) (by decide +kernel), List.forall_mem_cons.mpr ⟨List.mem_of_getElem? (i := 457) (by decide +kernel), List.forall_mem_cons.mpr ⟨List.mem_of_getElem? (i := 458) (by decide +kernel), List.forall_mem_cons.mpr ⟨List.mem_of_getElem? (i := 460) (by decide +kernel), List.forall_mem_cons.mpr ⟨List.mem_of_getElem? (i := 13) (by decide +kernel), List.forall_mem_cons.mpr ⟨List.mem_of_getElem? (i := 461) (by decide +kernel), fun _ h => absurd h List.not_mem_nil⟩⟩⟩⟩⟩⟩⟩⟩⟩⟩⟩⟩⟩⟩⟩⟩⟩⟩⟩⟩⟩⟩⟩⟩
set_option maxRecDepth 20000 in
theorem wsL_in_10 : ∀ w ∈ wsL_law_r10, w ∈ lw_tbl := List.forall_mem_cons.mpr ⟨List.mem_of_getElem? (i := 179) (by decide +kernel), List.forall_mem_cons.mpr ⟨List.mem_of_getElem? (i := 180) (by decide +kernel), List.forall_mem_cons.mpr ⟨List.mem_of_getElem? (i := 181) (by decide +kernel), List.forall_mem_cons.mpr ⟨List.mem_of_getElem? (i := 182) (by decide +kernel), List.forall_mem_cons.mpr ⟨List.mem_of_getElem? (i := 462) (by decide +kernel), List.forall_mem_cons.mpr ⟨List.mem_of_getElem? (i := 463) (by decide +kernel), List.forall_mem_cons.mpr ⟨List.mem_of_getElem? (i := 464) (by decide +kernel), List.forall_mem_cons.mpr ⟨List.mem_of_getElem? (i := 465) (by decide +kernel), List.forall_mem_cons.mpr ⟨List.mem_of_getElem? (i := 183) (by decide +kernel), List.forall_mem_cons.mpr ⟨List.mem_of_getElem? (i := 184) (by decide +kernel), List.forall_mem_cons.mpr ⟨List.mem_of_getElem? (i := 185) (by decide +kernel), List.forall_mem_cons.mpr ⟨List.mem_of_getElem? (i := 186) (by decide +kernel), List.forall_mem_cons.mpr ⟨List.mem_of_getElem? (i := 187) (by decide +kernel), List.forall_mem_cons.mpr ⟨List.mem_of_getElem? (i := 189) (by decide +kernel), List.forall_mem_cons.mpr ⟨List.mem_of_getElem? (i := 0) (by decide +kernel), List.forall_mem_cons.mpr ⟨List.mem_of_getElem? (i := 190) (by decide +kernel), List.forall_mem_cons.mpr ⟨List.mem_of_getElem? (i := 191) (by decide +kernel), List.forall_mem_cons.mpr ⟨List.mem_of_getElem? (i := 192) (by decide +kernel), List.forall_mem_cons.mpr ⟨List.mem_of_getElem? (i := 193) (by decide +kernel), List.forall_mem_cons.mpr ⟨List.mem_of_getElem? (i := 194) (by decide +kernel), List.forall_mem_cons.mpr ⟨List.mem_of_getElem? (i := 195) (by decide +kernel), List.forall_mem_cons.mpr ⟨List.mem_of_getElem? (i := 466) (by decide +kernel), List.forall_mem_cons.mpr ⟨List.mem_of_getElem? (i := 467) (by decide +kernel), List.forall_mem_cons.mpr ⟨List.mem_of_getElem? (i := 468) (by decide +kernel), fun _ h => absurd h List.not_mem_nil⟩⟩⟩⟩⟩⟩⟩⟩⟩⟩⟩⟩⟩⟩⟩⟩⟩⟩⟩⟩⟩⟩⟩⟩
set_option maxRecDepth 20000 in
theorem wsL_in_11 : ∀ w ∈ wsL_law_r11, w ∈ lw_tbl := List.forall_mem_cons.mpr ⟨List.mem_of_getElem? (i := 469) (by decide +kernel), List.forall_mem_cons.mpr ⟨List.mem_of_getElem? (i := 470) (by decide +kernel), List.forall_mem_cons.mpr ⟨List.mem_of_getElem? (i := 472) (by decide +kernel), List.forall_mem_cons.mpr ⟨List.mem_of_getElem? (i := 14) (by decide +kernel), List.forall_mem_cons.mpr ⟨List.mem_of_getElem? (i := 473) (by decide +kernel), List.forall_mem_cons.mpr ⟨List.mem_of_getElem? (i := 474) (by decide +kernel), List.forall_mem_cons.mpr ⟨List.mem_of_getElem? (i := 475) (by decide +kernel), List.forall_mem_cons.mpr ⟨List.mem_of_getElem? (i := 477) (by decide +kernel), List.forall_mem_cons.mpr ⟨List.mem_of_getElem? (i := 15) (by decide +kernel), List.forall_mem_cons.mpr ⟨List.mem_of_getElem? (i := 478) (by decide +kernel), List.forall_mem_cons.mpr ⟨List.mem_of_getElem? (i := 196) (by decide +kernel), List.forall_mem_cons.mpr ⟨List.mem_of_getElem? (i := 197) (by decide +kernel), List.forall_mem_cons.mpr ⟨List.mem_of_getElem? (i := 198) (by decide +kernel), List.forall_mem_cons.mpr ⟨List.mem_of_getElem? (i := 199) (by decide +kernel), List.forall_mem_cons.mpr ⟨List.mem_of_getElem? (i := 200) (by decide +kernel), List.forall_mem_cons.mpr ⟨List.mem_of_getElem? (i := 201) (by decide +kernel), List.forall_mem_cons.mpr ⟨List.mem_of_getElem? (i := 202) (by decide +kernel), List.forall_mem_cons.mpr ⟨List.mem_of_getElem? (i := 203) (by decide +kernel), List.forall_mem_cons.mpr ⟨List.mem_of_getElem? (i := 204) (by decide +kernel), List.forall_mem_cons.mpr ⟨List.mem_of_getElem? (i := 479) (by decide +kernel), List.forall_mem_cons.mpr ⟨List.mem_of_getElem? (i := 480) (by decide +kernel), List.forall_mem_cons.mpr ⟨List.mem_of_getElem? (i := 481) (by decide +kernel), List.forall_mem_cons.mpr ⟨List.mem_of_getElem? (i := 482) (by decide +kernel), List.forall_mem_cons.mpr ⟨List.mem_of_getElem? (i := 483) (by decide +kernel), fun _ h => absurd h List.not_mem_nil⟩⟩⟩⟩⟩⟩⟩⟩⟩⟩⟩⟩⟩⟩⟩⟩⟩⟩⟩⟩⟩⟩⟩⟩
set_option maxRecDepth 20000 in
theorem wsL_in_12 : ∀ w ∈ wsL_law_r12, w ∈ lw_tbl := List.forall_mem_cons.mpr ⟨List.mem_of_getElem? (i := 485) (by decide +kernel), List.forall_mem_cons.mpr ⟨List.mem_of_getElem? (i := 16) (by decide +kernel), List.forall_mem_cons.mpr ⟨List.mem_of_getElem? (i := 486) (by decide +kernel), List.forall_mem_cons.mpr ⟨List.mem_of_getElem? (i := 205) (by decide +kernel), List.forall_mem_cons.mpr ⟨List.mem_of_getElem? (i := 206) (by decide +kernel), List.forall_mem_cons.mpr ⟨List.mem_of_getElem? (i := 207) (by decide +kernel), List.forall_mem_cons.mpr ⟨List.mem_of_getElem? (i := 208) (by decide +kernel), List.forall_mem_cons.mpr ⟨List.mem_of_getElem? (i := 209) (by decide +kernel), List.forall_mem_cons.mpr ⟨List.mem_of_getElem? (i := 211) (by decide +kernel), List.forall_mem_cons.mpr ⟨List.mem_of_getElem? (i := 1) (by decide +kernel), List.forall_mem_cons.mpr ⟨List.mem_of_getElem? (i := 212) (by decide +kernel), List.forall_mem_cons.mpr ⟨List.mem_of_getElem? (i := 213) (by decide +kernel), List.forall_mem_cons.mpr ⟨List.mem_of_getElem? (i := 214) (by decide +kernel), List.forall_mem_cons.mpr ⟨List.mem_of_getElem? (i := 215) (by decide +kernel), List.forall_mem_cons.mpr ⟨List.mem_of_getElem? (i := 216) (by decide +kernel), List.forall_mem_cons.mpr ⟨List.mem_of_getElem? (i := 217) (by decide +kernel), List.forall_mem_cons.mpr ⟨List.mem_of_getElem? (i := 218) (by decide +kernel), List.forall_mem_cons.mpr ⟨List.mem_of_getElem? (i := 220) (by decide +kernel), List.forall_mem_cons.mpr ⟨List.mem_of_getElem? (i := 2) (by decide +kernel), List.forall_mem_cons.mpr ⟨List.mem_of_getElem? (i := 221) (by decide +kernel), List.forall_mem_cons.mpr ⟨List.mem_of_getElem? (i := 222) (by decide +kernel), List.forall_mem_cons.mpr ⟨List.mem_of_getElem? (i := 224) (by decide +kernel), List.forall_mem_cons.mpr ⟨List.mem_of_getElem? (i := 3) (by decide +kernel), List.forall_mem_cons.mpr ⟨List.mem_of_getElem? (i := 225) (by decide +kernel), fun _ h => absurd h List.not_mem_nil⟩⟩⟩⟩⟩⟩⟩⟩⟩⟩⟩⟩⟩⟩⟩⟩⟩⟩⟩⟩⟩⟩⟩⟩
set_option maxRecDepth 20000 in
theorem wsL_in_13 : ∀ w ∈ wsL_law_r13, w ∈ lw_tbl := List.forall_mem_cons.mpr ⟨List.mem_of_getElem? (i := 226) (by decide +kernel), List.forall_mem_cons.mpr ⟨List.mem_of_getElem? (i := 227) (by decide +kernel), List.forall_mem_cons.mpr ⟨List.mem_of_getElem? (i := 229) (by decide +kernel), List.forall_mem_cons.mpr ⟨List.mem_of_getElem? (i := 4) (by decide +kernel), List.forall_mem_cons.mpr ⟨List.mem_of_getElem? (i := 230) (by decide +kernel), List.forall_mem_cons.mpr ⟨List.mem_of_getElem? (i := 231) (by decide +kernel), List.forall_mem_cons.mpr ⟨List.mem_of_getElem? (i := 233) (by decide +kernel), List.forall_mem_cons.mpr ⟨List.mem_of_getElem? (i := 5) (by decide +kernel), List.forall_mem_cons.mpr ⟨List.mem_of_getElem? (i := 234) (by decide +kernel), List.forall_mem_cons.mpr ⟨List.mem_of_getElem? (i := 235) (by decide +kernel), List.forall_mem_cons.mpr ⟨List.mem_of_getElem? (i := 236) (by decide +kernel), List.forall_mem_cons.mpr ⟨List.mem_of_getElem? (i := 237) (by decide +kernel), List.forall_mem_cons.mpr ⟨List.mem_of_getElem? (i := 238) (by decide +kernel), List.forall_mem_cons.mpr ⟨List.mem_of_getElem? (i := 239) (by decide +kernel), List.forall_mem_cons.mpr ⟨List.mem_of_getElem? (i := 240) (by decide +kernel), List.forall_mem_cons.mpr ⟨List.mem_of_getElem? (i := 241) (by decide +kernel), List.forall_mem_cons.mpr ⟨List.mem_of_getElem? (i := 242) (by decide +kernel), List.forall_mem_cons.mpr ⟨List.mem_of_getElem? (i := 243) (by decide +kernel), List.forall_mem_cons.mpr ⟨List.mem_of_getElem? (i := 487) (by decide +kernel), List.forall_mem_cons.mpr ⟨List.mem_of_getElem? (i := 488) (by decide +kernel), List.forall_mem_cons.mpr ⟨List.mem_of_getElem? (i := 489) (by decide +kernel), List.forall_mem_cons.mpr ⟨List.mem_of_getElem? (i := 490) (by decide +kernel), List.forall_mem_cons.mpr ⟨List.mem_of_getElem? (i := 382) (by decide +kernel), List.forall_mem_cons.mpr ⟨List.mem_of_getElem? (i := 491) (by decide +kernel), fun _ h => absurd h List.not_mem_nil⟩⟩⟩⟩⟩⟩⟩⟩⟩⟩⟩⟩⟩⟩⟩⟩⟩⟩⟩⟩⟩⟩⟩⟩
set_option maxRecDepth 20000 in
theorem wsL_in_14 : ∀ w ∈ wsL_law_r14, w ∈ lw_tbl := List.forall_mem_cons.mpr ⟨List.mem_of_getElem? (i := 493) (by decide +kernel), List.forall_mem_cons.mpr ⟨List.mem_of_getElem? (i := 17) (by decide +kernel), List.forall_mem_cons.mpr ⟨List.mem_of_getElem? (i := 494) (by decide +kernel), List.forall_mem_cons.mpr ⟨List.mem_of_getElem? (i := 244) (by decide +kernel), List.forall_mem_cons.mpr ⟨List.mem_of_getElem? (i := 245) (by decide +kernel), List.forall_mem_cons.mpr ⟨List.mem_of_getElem? (i := 246) (by decide +kernel), List.forall_mem_cons.mpr ⟨List.mem_of_getElem? (i := 247) (by decide +kernel), List.forall_mem_cons.mpr ⟨List.mem_of_getElem? (i := 248) (by decide +kernel), List.forall_mem_cons.mpr ⟨List.mem_of_getElem? (i := 249) (by decide +kernel), List.forall_mem_cons.mpr ⟨List.mem_of_getElem? (i := 250) (by decide +kernel), List.forall_mem_cons.mpr ⟨List.mem_of_getElem? (i := 251) (by decide +kernel), List.forall_mem_cons.mpr ⟨List.mem_of_getElem? (i := 252) (by decide +kernel), List.forall_mem_cons.mpr ⟨List.mem_of_getElem? (i := 253) (by decide +kernel), List.forall_mem_cons.mpr ⟨List.mem_of_getElem? (i := 254) (by decide +kernel), List.forall_mem_cons.mpr ⟨List.mem_of_getElem? (i := 255) (by decide +kernel), List.forall_mem_cons.mpr ⟨List.mem_of_getElem? (i := 495) (by decide +kernel), List.forall_mem_cons.mpr ⟨List.mem_of_getElem? (i := 496) (by decide +kernel), List.forall_mem_cons.mpr ⟨List.mem_of_getElem? (i := 497) (by decide +kernel), List.forall_mem_cons.mpr ⟨List.mem_of_getElem? (i := 498) (by decide +kernel), List.forall_mem_cons.mpr ⟨List.mem_of_getElem? (i := 499) (by decide +kernel), List.forall_mem_cons.mpr ⟨List.mem_of_getElem? (i := 501) (by decide +kernel), List.forall_mem_cons.mpr ⟨List.mem_of_getElem? (i := 18) (by decide +kernel), List.forall_mem_cons.mpr ⟨List.mem_of_getElem? (i := 502) (by decide +kernel), List.forall_mem_cons.mpr ⟨List.mem_of_getElem? (i := 256) (by decide +kernel), fun _ h => absurd h List.not_mem_nil⟩⟩⟩⟩⟩⟩⟩⟩⟩⟩⟩⟩⟩⟩⟩⟩⟩⟩⟩⟩⟩⟩⟩⟩
set_option maxRecDepth 20000 in
theorem wsL_in_15 : ∀ w ∈ wsL_law_r15, w ∈ lw_tbl := List.forall_mem_cons.mpr ⟨List.mem_of_getElem? (i := 257) (by decide +kernel), List.forall_mem_cons.mpr ⟨List.mem_of_getElem? (i := 258) (by decide +kernel), List.forall_mem_cons.mpr ⟨List.mem_of_getElem? (i := 259) (by decide +kernel), List.forall_mem_cons.mpr ⟨List.mem_of_getElem? (i := 503) (by decide +kernel), List.forall_mem_cons.mpr ⟨List.mem_of_getElem? (i := 504) (by decide +kernel), List.forall_mem_cons.mpr ⟨List.mem_of_getElem? (i := 505) (by decide +kernel), List.forall_mem_cons.mpr ⟨List.mem_of_getElem? (i := 506) (by decide +kernel), List.forall_mem_cons.mpr ⟨List.mem_of_getElem? (i := 507) (by decide +kernel), List.forall_mem_cons.mpr ⟨List.mem_of_getElem? (i := 509) (by decide +kernel), List.forall_mem_cons.mpr ⟨List.mem_of_getElem? (i := 19) (by decide +kernel), List.forall_mem_cons.mpr ⟨List.mem_of_getElem? (i := 510) (by decide +kernel), List.forall_mem_cons.mpr ⟨List.mem_of_getElem? (i := 260) (by decide +kernel), List.forall_mem_cons.mpr ⟨List.mem_of_getElem? (i := 261) (by decide +kernel), List.forall_mem_cons.mpr ⟨List.mem_of_getElem? (i := 262) (by decide +kernel), List.forall_mem_cons.mpr ⟨List.mem_of_getElem? (i := 263) (by decide +kernel), List.forall_mem_cons.mpr ⟨List.mem_of_getElem? (i := 511) (by decide +kernel), List.forall_mem_cons.mpr ⟨List.mem_of_getElem? (i := 512) (by decide +kernel), List.forall_mem_cons.mpr ⟨List.mem_of_getElem? (i := 513) (by decide +kernel), List.forall_mem_cons.mpr ⟨List.mem_of_getElem? (i := 514) (by decide +kernel), List.forall_mem_cons.mpr ⟨List.mem_of_getElem? (i := 264) (by decide +kernel), List.forall_mem_cons.mpr ⟨List.mem_of_getElem? (i := 265) (by decide +kernel), List.forall_mem_cons.mpr ⟨List.mem_of_getElem? (i := 266) (by decide +kernel), List.forall_mem_cons.mpr ⟨List.mem_of_getElem? (i := 267) (by decide +kernel), List.forall_mem_cons.mpr ⟨List.mem_of_getElem? (i := 515) (by decide +kernel), fun _ h => absurd h List.not_mem_nil⟩⟩⟩⟩⟩⟩⟩⟩⟩⟩⟩⟩⟩⟩⟩⟩⟩⟩⟩⟩⟩⟩⟩⟩
set_option maxRecDepth 20000 in
theorem wsL_in_16 : ∀ w ∈ wsL_law_r16, w ∈ lw_tbl := List.forall_mem_cons.mpr ⟨List.mem_of_getElem? (i := 516) (by decide +kernel), List.forall_mem_cons.mpr ⟨List.mem_of_getElem? (i := 517) (by decide +kernel), List.forall_mem_cons.mpr ⟨List.mem_of_getElem? (i := 518) (by decide +kernel), List.forall_mem_cons.mpr ⟨List.mem_of_getElem? (i := 268) (by decide +kernel), List.forall_mem_cons.mpr ⟨List.mem_of_getElem? (i := 269) (by decide +kernel), List.forall_mem_cons.mpr ⟨List.mem_of_getElem? (i := 270) (by decide +kernel), List.forall_mem_cons.mpr ⟨List.mem_of_getElem? (i := 271) (by decide +kernel), List.forall_mem_cons.mpr ⟨List.mem_of_getElem? (i := 277) (by decide +kernel), List.forall_mem_cons.mpr ⟨List.mem_of_getElem? (i := 272) (by decide +kernel), List.forall_mem_cons.mpr ⟨List.mem_of_getElem? (i := 273) (by decide +kernel), List.forall_mem_cons.mpr ⟨List.mem_of_getElem? (i := 274) (by decide +kernel), List.forall_mem_cons.mpr ⟨List.mem_of_getElem? (i := 275) (by decide +kernel), List.forall_mem_cons.mpr ⟨List.mem_of_getElem? (i := 276) (by decide +kernel), List.forall_mem_cons.mpr ⟨List.mem_of_getElem? (i := 278) (by decide +kernel), List.forall_mem_cons.mpr ⟨List.mem_of_getElem? (i := 279) (by decide +kernel), List.forall_mem_cons.mpr ⟨List.mem_of_getElem? (i := 280) (by decide +kernel), List.forall_mem_cons.mpr ⟨List.mem_of_getElem? (i := 281) (by decide +kernel), List.forall_mem_cons.mpr ⟨List.mem_of_getElem? (i := 519) (by decide +kernel), List.forall_mem_cons.mpr ⟨List.mem_of_getElem? (i := 520) (by decide +kernel), List.forall_mem_cons.mpr ⟨List.mem_of_getElem? (i := 521) (by decide +kernel), List.forall_mem_cons.mpr ⟨List.mem_of_getElem? (i := 522) (by decide +kernel), List.forall_mem_cons.mpr ⟨List.mem_of_getElem? (i := 528) (by decide +kernel), List.forall_mem_cons.mpr ⟨List.mem_of_getElem? (i := 523) (by decide +kernel), List.forall_mem_cons.mpr ⟨List.mem_of_getElem? (i := 524) (by decide +kernel), fun _ h => absurd h List.not_mem_nil⟩⟩⟩⟩⟩⟩⟩⟩⟩⟩⟩⟩⟩⟩⟩⟩⟩⟩⟩⟩⟩⟩⟩⟩
set_option maxRecDepth 20000 in
theorem wsL_in_17 : ∀ w ∈ wsL_law_r17, w ∈ lw_tbl := List.forall_mem_cons.mpr ⟨List.mem_of_getElem? (i := 525) (by decide +kernel), List.forall_mem_cons.mpr ⟨List.mem_of_getElem? (i := 526) (by decide +kernel), List.forall_mem_cons.mpr ⟨List.mem_of_getElem? (i := 527) (by decide +kernel), List.forall_mem_cons.mpr ⟨List.mem_of_getElem? (i := 282) (by decide +kernel), List.forall_mem_cons.mpr ⟨List.mem_of_getElem? (i := 283) (by decide +kernel), List.forall_mem_cons.mpr ⟨List.mem_of_getElem? (i := 284) (by decide +kernel), List.forall_mem_cons.mpr ⟨List.mem_of_getElem? (i := 285) (by decide +kernel), List.forall_mem_cons.mpr ⟨List.mem_of_getElem? (i := 529) (by decide +kernel), List.forall_mem_cons.mpr ⟨List.mem_of_getElem? (i := 530) (by decide +kernel), List.forall_mem_cons.mpr ⟨List.mem_of_getElem? (i := 531) (by decide +kernel), List.forall_mem_cons.mpr ⟨List.mem_of_getElem? (i := 532) (by decide +kernel), List.forall_mem_cons.mpr ⟨List.mem_of_getElem? (i := 286) (by decide +kernel), List.forall_mem_cons.mpr ⟨List.mem_of_getElem? (i := 287) (by decide +kernel), List.forall_mem_cons.mpr ⟨List.mem_of_getElem? (i := 288) (by decide +kernel), List.forall_mem_cons.mpr ⟨List.mem_of_getElem? (i := 289) (by decide +kernel), List.forall_mem_cons.mpr ⟨List.mem_of_getElem? (i := 290) (by decide +kernel), List.forall_mem_cons.mpr ⟨List.mem_of_getElem? (i := 291) (by decide +kernel), List.forall_mem_cons.mpr ⟨List.mem_of_getElem? (i := 292) (by decide +kernel), List.forall_mem_cons.mpr ⟨List.mem_of_getElem? (i := 293) (by decide +kernel), List.forall_mem_cons.mpr ⟨List.mem_of_getElem? (i := 294) (by decide +kernel), List.forall_mem_cons.mpr ⟨List.mem_of_getElem? (i := 295) (by decide +kernel), List.forall_mem_cons.mpr ⟨List.mem_of_getElem? (i := 533) (by decide +kernel), List.forall_mem_cons.mpr ⟨List.mem_of_getElem? (i := 534) (by decide +kernel), List.forall_mem_cons.mpr ⟨List.mem_of_getElem? (i := 535) (by decide +kernel), fun _ h => absurd h List.not_mem_nil⟩⟩⟩⟩⟩⟩⟩⟩⟩⟩⟩⟩⟩⟩⟩⟩⟩⟩⟩⟩⟩⟩⟩⟩
set_option maxRecDepth 20000 in
theorem wsL_in_18 : ∀ w ∈ wsL_law_r18, w ∈ lw_tbl := List.forall_mem_cons.mpr ⟨List.mem_of_getElem? (i := 536) (by decide +kernel), List.forall_mem_cons.mpr ⟨List.mem_of_getElem? (i := 296) (by decide +kernel), List.forall_mem_cons.mpr ⟨List.mem_of_getElem? (i := 297) (by decide +kernel), List.forall_mem_cons.mpr ⟨List.mem_of_getElem? (i := 298) (by decide +kernel), List.forall_mem_cons.mpr ⟨List.mem_of_getElem? (i := 299) (by decide +kernel), List.forall_mem_cons.mpr ⟨List.mem_of_getElem? (i := 537) (by decide +kernel), List.forall_mem_cons.mpr ⟨List.mem_of_getElem? (i := 538) (by decide +kernel), List.forall_mem_cons.mpr ⟨List.mem_of_getElem? (i := 539) (by decide +kernel), List.forall_mem_cons.mpr ⟨List.mem_of_getElem? (i := 540) (by decide +kernel), List.forall_mem_cons.mpr ⟨List.mem_of_getElem? (i := 541) (by decide +kernel), List.forall_mem_cons.mpr ⟨List.mem_of_getElem? (i := 543) (by decide +kernel), List.forall_mem_cons.mpr ⟨List.mem_of_getElem? (i := 20) (by decide +kernel), List.forall_mem_cons.mpr ⟨List.mem_of_getElem? (i := 544) (by decide +kernel), List.forall_mem_cons.mpr ⟨List.mem_of_getElem? (i := 300) (by decide +kernel), List.forall_mem_cons.mpr ⟨List.mem_of_getElem? (i := 301) (by decide +kernel), List.forall_mem_cons.mpr ⟨List.mem_of_getElem? (i := 302) (by decide +kernel), List.forall_mem_cons.mpr ⟨List.mem_of_getElem? (i := 303) (by decide +kernel), List.forall_mem_cons.mpr ⟨List.mem_of_getElem? (i := 304) (by decide +kernel), List.forall_mem_cons.mpr ⟨List.mem_of_getElem? (i := 545) (by decide +kernel), List.forall_mem_cons.mpr ⟨List.mem_of_getElem? (i := 546) (by decide +kernel), List.forall_mem_cons.mpr ⟨List.mem_of_getElem? (i := 547) (by decide +kernel), List.forall_mem_cons.mpr ⟨List.mem_of_getElem? (i := 548) (by decide +kernel), List.forall_mem_cons.mpr ⟨List.mem_of_getElem? (i := 305) (by decide +kernel), List.forall_mem_cons.mpr ⟨List.mem_of_getElem? (i := 306) (by decide +kernel), fun _ h => absurd h List.not_mem_nil⟩⟩⟩⟩⟩⟩⟩⟩⟩⟩⟩⟩⟩⟩⟩⟩⟩⟩⟩⟩⟩⟩⟩⟩
set_option maxRecDepth 20000 in
theorem wsL_in_19 : ∀ w ∈ wsL_law_r19, w ∈ lw_tbl := List.forall_mem_cons.mpr ⟨List.mem_of_getElem? (i := 307) (by decide +kernel), List.forall_mem_cons.mpr ⟨List.mem_of_getElem? (i := 308) (by decide +kernel), List.forall_mem_cons.mpr ⟨List.mem_of_getElem? (i := 549) (by decide +kernel), List.forall_mem_cons.mpr ⟨List.mem_of_getElem? (i := 550) (by decide +kernel), List.forall_mem_cons.mpr ⟨List.mem_of_getElem? (i := 551) (by decide +kernel), List.forall_mem_cons.mpr ⟨List.mem_of_getElem? (i := 552) (by decide +kernel), List.forall_mem_cons.mpr ⟨List.mem_of_getElem? (i := 309) (by decide +kernel), List.forall_mem_cons.mpr ⟨List.mem_of_getElem? (i := 310) (by decide +kernel), List.forall_mem_cons.mpr ⟨List.mem_of_getElem? (i := 311) (by decide +kernel), List.forall_mem_cons.mpr ⟨List.mem_of_getElem? (i := 312) (by decide +kernel), List.forall_mem_cons.mpr ⟨List.mem_of_getElem? (i := 313) (by decide +kernel), List.forall_mem_cons.mpr ⟨List.mem_of_getElem? (i := 314) (by decide +kernel), List.forall_mem_cons.mpr ⟨List.mem_of_getElem? (i := 315) (by decide +kernel), List.forall_mem_cons.mpr ⟨List.mem_of_getElem? (i := 316) (by decide +kernel), List.forall_mem_cons.mpr ⟨List.mem_of_getElem? (i := 317) (by decide +kernel), List.forall_mem_cons.mpr ⟨List.mem_of_getElem? (i := 318) (by decide +kernel), List.forall_mem_cons.mpr ⟨List.mem_of_getElem? (i := 553) (by decide +kernel), List.forall_mem_cons.mpr ⟨List.mem_of_getElem? (i := 554) (by decide +kernel), List.forall_mem_cons.mpr ⟨List.mem_of_getElem? (i := 555) (by decide +kernel), List.forall_mem_cons.mpr ⟨List.mem_of_getElem? (i := 556) (by decide +kernel), List.forall_mem_cons.mpr ⟨List.mem_of_getElem? (i := 319) (by decide +kernel), List.forall_mem_cons.mpr ⟨List.mem_of_getElem? (i := 320) (by decide +kernel), List.forall_mem_cons.mpr ⟨List.mem_of_getElem? (i := 321) (by decide +kernel), List.forall_mem_cons.mpr ⟨List.mem_of_getElem? (i := 322) (by decide +kernel), fun _ h => absurd h List.not_mem_nil⟩⟩⟩⟩⟩⟩⟩⟩⟩⟩⟩⟩⟩⟩⟩⟩⟩⟩⟩⟩⟩⟩⟩⟩
set_option maxRecDepth 20000 in
theorem wsL_in_20 : ∀ w ∈ wsL_law_r20, w ∈ lw_tbl := List.forall_mem_cons.mpr ⟨List.mem_of_getElem? (i := 557) (by decide +kernel), List.forall_mem_cons.mpr ⟨List.mem_of_getElem? (i := 558) (by decide +kernel), List.forall_mem_cons.mpr ⟨List.mem_of_getElem? (i := 559) (by decide +kernel), List.forall_mem_cons.mpr ⟨List.mem_of_getElem? (i := 560) (by decide +kernel), List.forall_mem_cons.mpr ⟨List.mem_of_getElem? (i := 323) (by decide +kernel), List.forall_mem_cons.mpr ⟨List.mem_of_getElem? (i := 324) (by decide +kernel), List.forall_mem_cons.mpr ⟨List.mem_of_getElem? (i := 325) (by decide +kernel), List.forall_mem_cons.mpr ⟨List.mem_of_getElem? (i := 326) (by decide +kernel), List.forall_mem_cons.mpr ⟨List.mem_of_getElem? (i := 561) (by decide +kernel), List.forall_mem_cons.mpr ⟨List.mem_of_getElem? (i := 562) (by decide +kernel), List.forall_mem_cons.mpr ⟨List.mem_of_getElem? (i := 563) (by decide +kernel), List.forall_mem_cons.mpr ⟨List.mem_of_getElem? (i := 564) (by decide +kernel), List.forall_mem_cons.mpr ⟨List.mem_of_getElem? (i := 327) (by decide +kernel), List.forall_mem_cons.mpr ⟨List.mem_of_getElem? (i := 328) (by decide +kernel), List.forall_mem_cons.mpr ⟨List.mem_of_getElem? (i := 329) (by decide +kernel), List.forall_mem_cons.mpr ⟨List.mem_of_getElem? (i := 330) (by decide +kernel), List.forall_mem_cons.mpr ⟨List.mem_of_getElem? (i := 331) (by decide +kernel), List.forall_mem_cons.mpr ⟨List.mem_of_getElem? (i := 332) (by decide +kernel), List.forall_mem_cons.mpr ⟨List.mem_of_getElem? (i := 333) (by decide +kernel), List.forall_mem_cons.mpr ⟨List.mem_of_getElem? (i := 334) (by decide +kernel), List.forall_mem_cons.mpr ⟨List.mem_of_getElem? (i := 335) (by decide +kernel), List.forall_mem_cons.mpr ⟨List.mem_of_getElem? (i := 336) (by decide +kernel), List.forall_mem_cons.mpr ⟨List.mem_of_getElem? (i := 337) (by decide +kernel), List.forall_mem_cons.mpr ⟨List.mem_of_getElem? (i := 338) (by decide +kernel), fun _ h => absurd h List.not_mem_nil⟩⟩⟩⟩⟩⟩⟩⟩⟩⟩⟩⟩⟩⟩⟩⟩⟩⟩⟩⟩⟩⟩⟩⟩
set_option maxRecDepth 20000 in
theorem wsL_in_21 : ∀ w ∈ wsL_law_r21, w ∈ lw_tbl := List.forall_mem_cons.mpr ⟨List.mem_of_getElem? (i := 565) (by decide +kernel), List.forall_mem_cons.mpr ⟨List.mem_of_getElem? (i := 566) (by decide +kernel), List.forall_mem_cons.mpr ⟨List.mem_of_getElem? (i := 567) (by decide +kernel), List.forall_mem_cons.mpr ⟨List.mem_of_getElem? (i := 568) (by decide +kernel), List.forall_mem_cons.mpr ⟨List.mem_of_getElem? (i := 339) (by decide +kernel), List.forall_mem_cons.mpr ⟨List.mem_of_getElem? (i := 340) (by decide +kernel), List.forall_mem_cons.mpr ⟨List.mem_of_getElem? (i := 341) (by decide +kernel), List.forall_mem_cons.mpr ⟨List.mem_of_getElem? (i := 342) (by decide +kernel), List.forall_mem_cons.mpr ⟨List.mem_of_getElem? (i := 343) (by decide +kernel), List.forall_mem_cons.mpr ⟨List.mem_of_getElem? (i := 344) (by decide +kernel), List.forall_mem_cons.mpr ⟨List.mem_of_getElem? (i := 345) (by decide +kernel), List.forall_mem_cons.mpr ⟨List.mem_of_getElem? (i := 346) (by decide +kernel), List.forall_mem_cons.mpr ⟨List.mem_of_getElem? (i := 347) (by decide +kernel), List.forall_mem_cons.mpr ⟨List.mem_of_getElem? (i := 569) (by decide +kernel), List.forall_mem_cons.mpr ⟨List.mem_of_getElem? (i := 570) (by decide +kernel), List.forall_mem_cons.mpr ⟨List.mem_of_getElem? (i := 571) (by decide +kernel), List.forall_mem_cons.mpr ⟨List.mem_of_getElem? (i := 572) (by decide +kernel), List.forall_mem_cons.mpr ⟨List.mem_of_getElem? (i := 348) (by decide +kernel), List.forall_mem_cons.mpr ⟨List.mem_of_getElem? (i := 349) (by decide +kernel), List.forall_mem_cons.mpr ⟨List.mem_of_getElem? (i := 350) (by decide +kernel), List.forall_mem_cons.mpr ⟨List.mem_of_getElem? (i := 351) (by decide +kernel), List.forall_mem_cons.mpr ⟨List.mem_of_getElem? (i := 352) (by decide +kernel), List.forall_mem_cons.mpr ⟨List.mem_of_getElem? (i := 353) (by decide +kernel), List.forall_mem_cons.mpr ⟨List.mem_of_getElem? (i := 354) (by decide +kernel), fun _ h => absurd h List.not_mem_nil⟩⟩⟩⟩⟩⟩⟩⟩⟩⟩⟩⟩⟩⟩⟩⟩⟩⟩⟩⟩⟩⟩⟩⟩
set_option maxRecDepth 20000 in
theorem wsL_in_22 : ∀ w ∈ wsL_law_r22, w ∈ lw_tbl := List.forall_mem_cons.mpr ⟨List.mem_of_getElem? (i := 355) (by decide +kernel), List.forall_mem_cons.mpr ⟨List.mem_of_getElem? (i := 357) (by decide +kernel), List.forall_mem_cons.mpr ⟨List.mem_of_getElem? (i := 6) (by decide +kernel), List.forall_mem_cons.mpr ⟨List.mem_of_getElem? (i := 358) (by decide +kernel), List.forall_mem_cons.mpr ⟨List.mem_of_getElem? (i := 359) (by decide +kernel), List.forall_mem_cons.mpr ⟨List.mem_of_getElem? (i := 360) (by decide +kernel), List.forall_mem_cons.mpr ⟨List.mem_of_getElem? (i := 361) (by decide +kernel), List.forall_mem_cons.mpr ⟨List.mem_of_getElem? (i := 362) (by decide +kernel), List.forall_mem_cons.mpr ⟨List.mem_of_getElem? (i := 573) (by decide +kernel), List.forall_mem_cons.mpr ⟨List.mem_of_getElem? (i := 574) (by decide +kernel), List.forall_mem_cons.mpr ⟨List.mem_of_getElem? (i := 575) (by decide +kernel), List.forall_mem_cons.mpr ⟨List.mem_of_getElem? (i := 576) (by decide +kernel), List.forall_mem_cons.mpr ⟨List.mem_of_getElem? (i := 363) (by decide +kernel), List.forall_mem_cons.mpr ⟨List.mem_of_getElem? (i := 364) (by decide +kernel), List.forall_mem_cons.mpr ⟨List.mem_of_getElem? (i := 365) (by decide +kernel), List.forall_mem_cons.mpr ⟨List.mem_of_getElem? (i := 366) (by decide +kernel), List.forall_mem_cons.mpr ⟨List.mem_of_getElem? (i := 367) (by decide +kernel), List.forall_mem_cons.mpr ⟨List.mem_of_getElem? (i := 577) (by decide +kernel), List.forall_mem_cons.mpr ⟨List.mem_of_getElem? (i := 578) (by decide +kernel), List.forall_mem_cons.mpr ⟨List.mem_of_getElem? (i := 579) (by decide +kernel), List.forall_mem_cons.mpr ⟨List.mem_of_getElem? (i := 580) (by decide +kernel), List.forall_mem_cons.mpr ⟨List.mem_of_getElem? (i := 581) (by decide +kernel), fun _ h => absurd h List.not_mem_nil⟩⟩⟩⟩⟩⟩⟩⟩⟩⟩⟩⟩⟩⟩⟩⟩⟩⟩⟩⟩⟩⟩
set_option maxRecDepth 20000 in
theorem wsL_inX2 : ∀ w ∈ wsX20, w ∈ lw_tbl := by
  show ∀ w ∈ [u_lay RX2 TX2 0, u_lay RX2 TX2 1, u_lay RX2 TX2 2, u_lay RX2 TX2 3], w ∈ lw_tbl
  exact List.forall_mem_cons.mpr ⟨List.mem_of_getElem? (i := 76) (by decide +kernel), List.forall_mem_cons.mpr ⟨List.mem_of_getElem? (i := 78) (by decide +kernel), List.forall_mem_cons.mpr ⟨List.mem_of_getElem? (i := 80) (by decide +kernel), List.forall_mem_cons.mpr ⟨List.mem_of_getElem? (i := 82) (by decide +kernel), fun _ h => absurd h List.not_mem_nil⟩⟩⟩⟩
set_option maxRecDepth 20000 in
theorem wsL_inX3 : ∀ w ∈ wsX30, w ∈ lw_tbl := by
  show ∀ w ∈ [u_lay RX3 TX3 0, u_lay RX3 TX3 1, u_lay RX3 TX3 2, u_lay RX3 TX3 3, u_lay RX3 TX3 4], w ∈ lw_tbl
  exact List.forall_mem_cons.mpr ⟨List.mem_of_getElem? (i := 383) (by decide +kernel), List.forall_mem_cons.mpr ⟨List.mem_of_getElem? (i := 385) (by decide +kernel), List.forall_mem_cons.mpr ⟨List.mem_of_getElem? (i := 387) (by decide +kernel), List.forall_mem_cons.mpr ⟨List.mem_of_getElem? (i := 389) (by decide +kernel), List.forall_mem_cons.mpr ⟨List.mem_of_getElem? (i := 391) (by decide +kernel), fun _ h => absurd h List.not_mem_nil⟩⟩⟩⟩⟩
set_option maxRecDepth 20000 in
theorem wsL_inX0 : ∀ w ∈ wsX00, w ∈ lw_tbl := by
  show ∀ w ∈ [u_lay RX0 TX0 0, u_lay RX0 TX0 1, u_lay RX0 TX0 2, u_lay RX0 TX0 3], w ∈ lw_tbl
  exact List.forall_mem_cons.mpr ⟨List.mem_of_getElem? (i := 44) (by decide +kernel), List.forall_mem_cons.mpr ⟨List.mem_of_getElem? (i := 46) (by decide +kernel), List.forall_mem_cons.mpr ⟨List.mem_of_getElem? (i := 48) (by decide +kernel), List.forall_mem_cons.mpr ⟨List.mem_of_getElem? (i := 50) (by decide +kernel), fun _ h => absurd h List.not_mem_nil⟩⟩⟩⟩
set_option maxRecDepth 20000 in
theorem wsL_inX1 : ∀ w ∈ wsX10, w ∈ lw_tbl := by
  show ∀ w ∈ [u_lay RX1 TX1 0, u_lay RX1 TX1 1], w ∈ lw_tbl
  exact List.forall_mem_cons.mpr ⟨List.mem_of_getElem? (i := 63) (by decide +kernel), List.forall_mem_cons.mpr ⟨List.mem_of_getElem? (i := 65) (by decide +kernel), fun _ h => absurd h List.not_mem_nil⟩⟩
theorem wsL_law_in : ∀ w ∈ wsL_law, w ∈ lw_tbl := by
  unfold wsL_law
  exact List.forall_mem_append.mpr ⟨List.forall_mem_append.mpr ⟨List.forall_mem_append.mpr ⟨List.forall_mem_append.mpr ⟨List.forall_mem_append.mpr ⟨List.forall_mem_append.mpr ⟨wsL_in_1, List.forall_mem_append.mpr ⟨wsL_in_2, List.forall_mem_append.mpr ⟨wsL_in_3, List.forall_mem_append.mpr ⟨wsL_in_4, List.forall_mem_append.mpr ⟨wsL_in_5, List.forall_mem_append.mpr ⟨wsL_in_6, List.forall_mem_append.mpr ⟨wsL_in_7, List.forall_mem_append.mpr ⟨wsL_in_8, List.forall_mem_append.mpr ⟨wsL_in_9, List.forall_mem_append.mpr ⟨wsL_in_10, List.forall_mem_append.mpr ⟨wsL_in_11, List.forall_mem_append.mpr ⟨wsL_in_12, List.forall_mem_append.mpr ⟨wsL_in_13, List.forall_mem_append.mpr ⟨wsL_in_14, List.forall_mem_append.mpr ⟨wsL_in_15, List.forall_mem_append.mpr ⟨wsL_in_16, List.forall_mem_append.mpr ⟨wsL_in_17, List.forall_mem_append.mpr ⟨wsL_in_18, List.forall_mem_append.mpr ⟨wsL_in_19, List.forall_mem_append.mpr ⟨wsL_in_20, List.forall_mem_append.mpr ⟨wsL_in_21, wsL_in_22⟩⟩⟩⟩⟩⟩⟩⟩⟩⟩⟩⟩⟩⟩⟩⟩⟩⟩⟩⟩⟩, wsL_inX2⟩, wsL_inX3⟩, wsL_inX0⟩, wsL_inX1⟩, fun _ h => absurd h List.not_mem_nil⟩
theorem inlX0 : ∀ w ∈ wsX00, w ∈ wsL_law := fun _ h => List.mem_append_left _ (List.mem_append_left _ (List.mem_append_right _ h))
theorem inX0 : ∀ w ∈ wsX00, w ∈ lw_tbl := fun w h => wsL_law_in w (inlX0 w h)
theorem inlX1 : ∀ w ∈ wsX10, w ∈ wsL_law := fun _ h => List.mem_append_left _ (List.mem_append_right _ h)
theorem inX1 : ∀ w ∈ wsX10, w ∈ lw_tbl := fun w h => wsL_law_in w (inlX1 w h)
theorem inlX2 : ∀ w ∈ wsX20, w ∈ wsL_law := fun _ h => List.mem_append_left _ (List.mem_append_left _ (List.mem_append_left _ (List.mem_append_left _ (List.mem_append_right _ h))))
theorem inX2 : ∀ w ∈ wsX20, w ∈ lw_tbl := fun w h => wsL_law_in w (inlX2 w h)
theorem inlX3 : ∀ w ∈ wsX30, w ∈ wsL_law := fun _ h => List.mem_append_left _ (List.mem_append_left _ (List.mem_append_left _ (List.mem_append_right _ h)))
theorem inX3 : ∀ w ∈ wsX30, w ∈ lw_tbl := fun w h => wsL_law_in w (inlX3 w h)
end
section
theorem dX0_init_0 : decode cX0_init 0 = .ok (.aload_n 0, 1) := by decide +kernel
theorem dX0_init_1 : decode cX0_init 1 = .ok (.invokespecial 3, 3) := by decide +kernel
theorem dX0_init_4 : decode cX0_init 4 = .ok (.aload_n 0, 1) := by decide +kernel
theorem dX0_init_5 : decode cX0_init 5 = .ok (.iconst 0, 1) := by decide +kernel
theorem dX0_init_6 : decode cX0_init 6 = .ok (.putfield 9, 3) := by decide +kernel
theorem dX0_init_9 : decode cX0_init 9 = .ok (.aload_n 0, 1) := by decide +kernel
theorem dX0_init_10 : decode cX0_init 10 = .ok (.bipush 64, 2) := by decide +kernel
theorem dX0_init_12 : decode cX0_init 12 = .ok (.newarray .int, 2) := by decide +kernel
theorem dX0_init_14 : decode cX0_init 14 = .ok (.putfield 15, 3) := by decide +kernel
theorem dX0_init_17 : decode cX0_init 17 = .ok (.aload_n 0, 1) := by decide +kernel
theorem dX0_init_18 : decode cX0_init 18 = .ok (.bipush 64, 2) := by decide +kernel
theorem dX0_init_20 : decode cX0_init 20 = .ok (.newarray .int, 2) := by decide +kernel
theorem dX0_init_22 : decode cX0_init 22 = .ok (.putfield 19, 3) := by decide +kernel
theorem dX0_init_25 : decode cX0_init 25 = .ok (.aload_n 0, 1) := by decide +kernel
theorem dX0_init_26 : decode cX0_init 26 = .ok (.bipush 64, 2) := by decide +kernel
theorem dX0_init_28 : decode cX0_init 28 = .ok (.newarray .boolean, 2) := by decide +kernel
theorem dX0_init_30 : decode cX0_init 30 = .ok (.putfield 22, 3) := by decide +kernel
theorem dX0_init_33 : decode cX0_init 33 = .ok (.return_, 1) := by decide +kernel
theorem dX0_size_0 : decode cX0_size 0 = .ok (.aload_n 0, 1) := by decide +kernel
theorem dX0_size_1 : decode cX0_size 1 = .ok (.getfield 9, 3) := by decide +kernel
theorem dX0_size_4 : decode cX0_size 4 = .ok (.ireturn, 1) := by decide +kernel
theorem dX0_startAnew_0 : decode cX0_startAnew 0 = .ok (.aload_n 0, 1) := by decide +kernel
theorem dX0_startAnew_1 : decode cX0_startAnew 1 = .ok (.iload_n 1, 1) := by decide +kernel
theorem dX0_startAnew_2 : decode cX0_startAnew 2 = .ok (.putfield 9, 3) := by decide +kernel
theorem dX0_startAnew_5 : decode cX0_startAnew 5 = .ok (.iconst 0, 1) := by decide +kernel
theorem dX0_startAnew_6 : decode cX0_startAnew 6 = .ok (.istore_n 2, 1) := by decide +kernel
theorem dX0_startAnew_7 : decode cX0_startAnew 7 = .ok (.iload_n 2, 1) := by decide +kernel
theorem dX0_startAnew_8 : decode cX0_startAnew 8 = .ok (.bipush 64, 2) := by decide +kernel
theorem dX0_startAnew_10 : decode cX0_startAnew 10 = .ok (.if_icmp .ge 30, 3) := by decide +kernel
theorem dX0_startAnew_13 : decode cX0_startAnew 13 = .ok (.aload_n 0, 1) := by decide +kernel
theorem dX0_startAnew_14 : decode cX0_startAnew 14 = .ok (.getfield 15, 3) := by decide +kernel
theorem dX0_startAnew_17 : decode cX0_startAnew 17 = .ok (.iload_n 2, 1) := by decide +kernel
theorem dX0_startAnew_18 : decode cX0_startAnew 18 = .ok (.iconst (-1), 1) := by decide +kernel
theorem dX0_startAnew_19 : decode cX0_startAnew 19 = .ok (.iastore, 1) := by decide +kernel
theorem dX0_startAnew_20 : decode cX0_startAnew 20 = .ok (.aload_n 0, 1) := by decide +kernel
theorem dX0_startAnew_21 : decode cX0_startAnew 21 = .ok (.getfield 19, 3) := by decide +kernel
theorem dX0_startAnew_24 : decode cX0_startAnew 24 = .ok (.iload_n 2, 1) := by decide +kernel
theorem dX0_startAnew_25 : decode cX0_startAnew 25 = .ok (.iconst 0, 1) := by decide +kernel
theorem dX0_startAnew_26 : decode cX0_startAnew 26 = .ok (.iastore, 1) := by decide +kernel
theorem dX0_startAnew_27 : decode cX0_startAnew 27 = .ok (.aload_n 0, 1) := by decide +kernel
theorem dX0_startAnew_28 : decode cX0_startAnew 28 = .ok (.getfield 22, 3) := by decide +kernel
theorem dX0_startAnew_31 : decode cX0_startAnew 31 = .ok (.iload_n 2, 1) := by decide +kernel
theorem dX0_startAnew_32 : decode cX0_startAnew 32 = .ok (.iconst 0, 1) := by decide +kernel
theorem dX0_startAnew_33 : decode cX0_startAnew 33 = .ok (.bastore, 1) := by decide +kernel
theorem dX0_startAnew_34 : decode cX0_startAnew 34 = .ok (.iinc 2 1, 3) := by decide +kernel
theorem dX0_startAnew_37 : decode cX0_startAnew 37 = .ok (.goto (-30), 3) := by decide +kernel
theorem dX0_startAnew_40 : decode cX0_startAnew 40 = .ok (.return_, 1) := by decide +kernel
theorem dX0_copyFrom_0 : decode cX0_copyFrom 0 = .ok (.aload_n 0, 1) := by decide +kernel
theorem dX0_copyFrom_1 : decode cX0_copyFrom 1 = .ok (.aload_n 1, 1) := by decide +kernel
theorem dX0_copyFrom_2 : decode cX0_copyFrom 2 = .ok (.getfield 9, 3) := by decide +kernel
theorem dX0_copyFrom_5 : decode cX0_copyFrom 5 = .ok (.putfield 9, 3) := by decide +kernel
theorem dX0_copyFrom_8 : decode cX0_copyFrom 8 = .ok (.iconst 0, 1) := by decide +kernel
theorem dX0_copyFrom_9 : decode cX0_copyFrom 9 = .ok (.istore_n 2, 1) := by decide +kernel
theorem dX0_copyFrom_10 : decode cX0_copyFrom 10 = .ok (.iload_n 2, 1) := by decide +kernel
theorem dX0_copyFrom_11 : decode cX0_copyFrom 11 = .ok (.bipush 64, 2) := by decide +kernel
theorem dX0_copyFrom_13 : decode cX0_copyFrom 13 = .ok (.if_icmp .ge 45, 3) := by decide +kernel
theorem dX0_copyFrom_16 : decode cX0_copyFrom 16 = .ok (.aload_n 0, 1) := by decide +kernel
theorem dX0_copyFrom_17 : decode cX0_copyFrom 17 = .ok (.getfield 15, 3) := by decide +kernel
theorem dX0_copyFrom_20 : decode cX0_copyFrom 20 = .ok (.iload_n 2, 1) := by decide +kernel
theorem dX0_copyFrom_21 : decode cX0_copyFrom 21 = .ok (.aload_n 1, 1) := by decide +kernel
theorem dX0_copyFrom_22 : decode cX0_copyFrom 22 = .ok (.getfield 15, 3) := by decide +kernel
theorem dX0_copyFrom_25 : decode cX0_copyFrom 25 = .ok (.iload_n 2, 1) := by decide +kernel
theorem dX0_copyFrom_26 : decode cX0_copyFrom 26 = .ok (.iaload, 1) := by decide +kernel
theorem dX0_copyFrom_27 : decode cX0_copyFrom 27 = .ok (.iastore, 1) := by decide +kernel
theorem dX0_copyFrom_28 : decode cX0_copyFrom 28 = .ok (.aload_n 0, 1) := by decide +kernel
theorem dX0_copyFrom_29 : decode cX0_copyFrom 29 = .ok (.getfield 19, 3) := by decide +kernel
theorem dX0_copyFrom_32 : decode cX0_copyFrom 32 = .ok (.iload_n 2, 1) := by decide +kernel
theorem dX0_copyFrom_33 : decode cX0_copyFrom 33 = .ok (.aload_n 1, 1) := by decide +kernel
theorem dX0_copyFrom_34 : decode cX0_copyFrom 34 = .ok (.getfield 19, 3) := by decide +kernel
theorem dX0_copyFrom_37 : decode cX0_copyFrom 37 = .ok (.iload_n 2, 1) := by decide +kernel
theorem dX0_copyFrom_38 : decode cX0_copyFrom 38 = .ok (.iaload, 1) := by decide +kernel
theorem dX0_copyFrom_39 : decode cX0_copyFrom 39 = .ok (.iastore, 1) := by decide +kernel
theorem dX0_copyFrom_40 : decode cX0_copyFrom 40 = .ok (.aload_n 0, 1) := by decide +kernel
theorem dX0_copyFrom_41 : decode cX0_copyFrom 41 = .ok (.getfield 22, 3) := by decide +kernel
theorem dX0_copyFrom_44 : decode cX0_copyFrom 44 = .ok (.iload_n 2, 1) := by decide +kernel
theorem dX0_copyFrom_45 : decode cX0_copyFrom 45 = .ok (.aload_n 1, 1) := by decide +kernel
theorem dX0_copyFrom_46 : decode cX0_copyFrom 46 = .ok (.getfield 22, 3) := by decide +kernel
theorem dX0_copyFrom_49 : decode cX0_copyFrom 49 = .ok (.iload_n 2, 1) := by decide +kernel
theorem dX0_copyFrom_50 : decode cX0_copyFrom 50 = .ok (.baload, 1) := by decide +kernel
theorem dX0_copyFrom_51 : decode cX0_copyFrom 51 = .ok (.bastore, 1) := by decide +kernel
theorem dX0_copyFrom_52 : decode cX0_copyFrom 52 = .ok (.iinc 2 1, 3) := by decide +kernel
theorem dX0_copyFrom_55 : decode cX0_copyFrom 55 = .ok (.goto (-45), 3) := by decide +kernel
theorem dX0_copyFrom_58 : decode cX0_copyFrom 58 = .ok (.return_, 1) := by decide +kernel
theorem dX0_has_0 : decode cX0_has 0 = .ok (.iload_n 1, 1) := by decide +kernel
theorem dX0_has_1 : decode cX0_has 1 = .ok (.ifCond .lt 21, 3) := by decide +kernel
theorem dX0_has_4 : decode cX0_has 4 = .ok (.iload_n 1, 1) := by decide +kernel
theorem dX0_has_5 : decode cX0_has 5 = .ok (.aload_n 0, 1) := by decide +kernel
theorem dX0_has_6 : decode cX0_has 6 = .ok (.getfield 9, 3) := by decide +kernel
theorem dX0_has_9 : decode cX0_has 9 = .ok (.if_icmp .ge 13, 3) := by decide +kernel
theorem dX0_has_12 : decode cX0_has 12 = .ok (.iload_n 1, 1) := by decide +kernel
theorem dX0_has_13 : decode cX0_has 13 = .ok (.bipush 64, 2) := by decide +kernel
theorem dX0_has_15 : decode cX0_has 15 = .ok (.if_icmp .ge 7, 3) := by decide +kernel
theorem dX0_has_18 : decode cX0_has 18 = .ok (.iconst 1, 1) := by decide +kernel
theorem dX0_has_19 : decode cX0_has 19 = .ok (.goto 4, 3) := by decide +kernel
theorem dX0_has_22 : decode cX0_has 22 = .ok (.iconst 0, 1) := by decide +kernel
theorem dX0_has_23 : decode cX0_has 23 = .ok (.ireturn, 1) := by decide +kernel
set_option maxRecDepth 20000 in
theorem ggX0_parentOf_X0_has : GoodIn wsX0_parentOf wsX0_has := goodIn_r _ [6, 7, 8, 9, 10, 11] (by decide +kernel) (by decide +kernel)
set_option maxRecDepth 20000 in
theorem gX0_parentOf_X0_has : GoodIn wsX0_parentOf (wsV RX0 26 RX0 yX0_has wsX0_has) := goodIn_app (goodIn_of _ (by decide +kernel)) ggX0_parentOf_X0_has
theorem dX0_parentOf_0 : decode cX0_parentOf 0 = .ok (.aload_n 0, 1) := by decide +kernel
theorem dX0_parentOf_1 : decode cX0_parentOf 1 = .ok (.iload_n 1, 1) := by decide +kernel
theorem dX0_parentOf_2 : decode cX0_parentOf 2 = .ok (.invokevirtual 26, 3) := by decide +kernel
theorem dX0_parentOf_5 : decode cX0_parentOf 5 = .ok (.ifCond .eq 12, 3) := by decide +kernel
theorem dX0_parentOf_8 : decode cX0_parentOf 8 = .ok (.aload_n 0, 1) := by decide +kernel
theorem dX0_parentOf_9 : decode cX0_parentOf 9 = .ok (.getfield 15, 3) := by decide +kernel
theorem dX0_parentOf_12 : decode cX0_parentOf 12 = .ok (.iload_n 1, 1) := by decide +kernel
theorem dX0_parentOf_13 : decode cX0_parentOf 13 = .ok (.iaload, 1) := by decide +kernel
theorem dX0_parentOf_14 : decode cX0_parentOf 14 = .ok (.goto 4, 3) := by decide +kernel
theorem dX0_parentOf_17 : decode cX0_parentOf 17 = .ok (.iconst (-1), 1) := by decide +kernel
theorem dX0_parentOf_18 : decode cX0_parentOf 18 = .ok (.ireturn, 1) := by decide +kernel
set_option maxRecDepth 20000 in
theorem ggX0_putParent_X0_has : GoodIn wsX0_putParent wsX0_has := goodIn_r _ [6, 7, 8, 9, 10, 11] (by decide +kernel) (by decide +kernel)
set_option maxRecDepth 20000 in
theorem gX0_putParent_X0_has : GoodIn wsX0_putParent (wsV RX0 26 RX0 yX0_has wsX0_has) := goodIn_app (goodIn_of _ (by decide +kernel)) ggX0_putParent_X0_has
theorem dX0_putParent_0 : decode cX0_putParent 0 = .ok (.aload_n 0, 1) := by decide +kernel
theorem dX0_putParent_1 : decode cX0_putParent 1 = .ok (.iload_n 1, 1) := by decide +kernel
theorem dX0_putParent_2 : decode cX0_putParent 2 = .ok (.invokevirtual 26, 3) := by decide +kernel
theorem dX0_putParent_5 : decode cX0_putParent 5 = .ok (.ifCond .eq 10, 3) := by decide +kernel
theorem dX0_putParent_8 : decode cX0_putParent 8 = .ok (.aload_n 0, 1) := by decide +kernel
theorem dX0_putParent_9 : decode cX0_putParent 9 = .ok (.getfield 15, 3) := by decide +kernel
theorem dX0_putParent_12 : decode cX0_putParent 12 = .ok (.iload_n 1, 1) := by decide +kernel
theorem dX0_putParent_13 : decode cX0_putParent 13 = .ok (.iload_n 2, 1) := by decide +kernel
theorem dX0_putParent_14 : decode cX0_putParent 14 = .ok (.iastore, 1) := by decide +kernel
theorem dX0_putParent_15 : decode cX0_putParent 15 = .ok (.return_, 1) := by decide +kernel
set_option maxRecDepth 20000 in
theorem ggX0_isRoot_X0_parentOf : GoodIn wsX0_isRoot wsX0_parentOf := goodIn_r _ [5, 6, 7, 8, 9, 4, 10, 11, 12, 13, 14, 15] (by decide +kernel) (by decide +kernel)
set_option maxRecDepth 20000 in
theorem gX0_isRoot_X0_parentOf : GoodIn wsX0_isRoot (wsV RX0 30 RX0 yX0_parentOf wsX0_parentOf) := goodIn_app (goodIn_of _ (by decide +kernel)) ggX0_isRoot_X0_parentOf
theorem dX0_isRoot_0 : decode cX0_isRoot 0 = .ok (.aload_n 0, 1) := by decide +kernel
theorem dX0_isRoot_1 : decode cX0_isRoot 1 = .ok (.iload_n 1, 1) := by decide +kernel
theorem dX0_isRoot_2 : decode cX0_isRoot 2 = .ok (.invokevirtual 30, 3) := by decide +kernel
theorem dX0_isRoot_5 : decode cX0_isRoot 5 = .ok (.iconst (-1), 1) := by decide +kernel
theorem dX0_isRoot_6 : decode cX0_isRoot 6 = .ok (.if_icmp .ne 7, 3) := by decide +kernel
theorem dX0_isRoot_9 : decode cX0_isRoot 9 = .ok (.iconst 1, 1) := by decide +kernel
theorem dX0_isRoot_10 : decode cX0_isRoot 10 = .ok (.goto 4, 3) := by decide +kernel
theorem dX0_isRoot_13 : decode cX0_isRoot 13 = .ok (.iconst 0, 1) := by decide +kernel
theorem dX0_isRoot_14 : decode cX0_isRoot 14 = .ok (.ireturn, 1) := by decide +kernel
set_option maxRecDepth 20000 in
theorem ggX0_valueOf_X0_has : GoodIn wsX0_valueOf wsX0_has := goodIn_r _ [6, 7, 8, 9, 10, 11] (by decide +kernel) (by decide +kernel)
set_option maxRecDepth 20000 in
theorem gX0_valueOf_X0_has : GoodIn wsX0_valueOf (wsV RX0 26 RX0 yX0_has wsX0_has) := goodIn_app (goodIn_of _ (by decide +kernel)) ggX0_valueOf_X0_has
theorem dX0_valueOf_0 : decode cX0_valueOf 0 = .ok (.aload_n 0, 1) := by decide +kernel
theorem dX0_valueOf_1 : decode cX0_valueOf 1 = .ok (.iload_n 1, 1) := by decide +kernel
theorem dX0_valueOf_2 : decode cX0_valueOf 2 = .ok (.invokevirtual 26, 3) := by decide +kernel
theorem dX0_valueOf_5 : decode cX0_valueOf 5 = .ok (.ifCond .eq 12, 3) := by decide +kernel
theorem dX0_valueOf_8 : decode cX0_valueOf 8 = .ok (.aload_n 0, 1) := by decide +kernel
theorem dX0_valueOf_9 : decode cX0_valueOf 9 = .ok (.getfield 19, 3) := by decide +kernel
theorem dX0_valueOf_12 : decode cX0_valueOf 12 = .ok (.iload_n 1, 1) := by decide +kernel
theorem dX0_valueOf_13 : decode cX0_valueOf 13 = .ok (.iaload, 1) := by decide +kernel
theorem dX0_valueOf_14 : decode cX0_valueOf 14 = .ok (.goto 4, 3) := by decide +kernel
theorem dX0_valueOf_17 : decode cX0_valueOf 17 = .ok (.iconst 0, 1) := by decide +kernel
theorem dX0_valueOf_18 : decode cX0_valueOf 18 = .ok (.ireturn, 1) := by decide +kernel
set_option maxRecDepth 20000 in
theorem ggX0_putValue_X0_has : GoodIn wsX0_putValue wsX0_has := goodIn_r _ [6, 7, 8, 9, 10, 11] (by decide +kernel) (by decide +kernel)
set_option maxRecDepth 20000 in
theorem gX0_putValue_X0_has : GoodIn wsX0_putValue (wsV RX0 26 RX0 yX0_has wsX0_has) := goodIn_app (goodIn_of _ (by decide +kernel)) ggX0_putValue_X0_has
theorem dX0_putValue_0 : decode cX0_putValue 0 = .ok (.aload_n 0, 1) := by decide +kernel
theorem dX0_putValue_1 : decode cX0_putValue 1 = .ok (.iload_n 1, 1) := by decide +kernel
theorem dX0_putValue_2 : decode cX0_putValue 2 = .ok (.invokevirtual 26, 3) := by decide +kernel
theorem dX0_putValue_5 : decode cX0_putValue 5 = .ok (.ifCond .eq 10, 3) := by decide +kernel
theorem dX0_putValue_8 : decode cX0_putValue 8 = .ok (.aload_n 0, 1) := by decide +kernel
theorem dX0_putValue_9 : decode cX0_putValue 9 = .ok (.getfield 19, 3) := by decide +kernel
theorem dX0_putValue_12 : decode cX0_putValue 12 = .ok (.iload_n 1, 1) := by decide +kernel
theorem dX0_putValue_13 : decode cX0_putValue 13 = .ok (.iload_n 2, 1) := by decide +kernel
theorem dX0_putValue_14 : decode cX0_putValue 14 = .ok (.iastore, 1) := by decide +kernel
theorem dX0_putValue_15 : decode cX0_putValue 15 = .ok (.return_, 1) := by decide +kernel
set_option maxRecDepth 20000 in
theorem ggX0_swapValues_X0_valueOf : GoodIn wsX0_swapValues wsX0_valueOf := goodIn_r _ [5, 6, 7, 8, 9, 4, 10, 11, 16, 17, 18, 19] (by decide +kernel) (by decide +kernel)
set_option maxRecDepth 20000 in
theorem gX0_swapValues_X0_valueOf : GoodIn wsX0_swapValues (wsV RX0 34 RX0 yX0_valueOf wsX0_valueOf) := goodIn_app (goodIn_of _ (by decide +kernel)) ggX0_swapValues_X0_valueOf
set_option maxRecDepth 20000 in
theorem ggX0_swapValues_X0_putValue : GoodIn wsX0_swapValues wsX0_putValue := goodIn_r _ [15, 6, 7, 8, 9, 4, 10, 11, 16, 17, 18, 19] (by decide +kernel) (by decide +kernel)
set_option maxRecDepth 20000 in
theorem gX0_swapValues_X0_putValue : GoodIn wsX0_swapValues (wsV RX0 37 RX0 yX0_putValue wsX0_putValue) := goodIn_app (goodIn_of _ (by decide +kernel)) ggX0_swapValues_X0_putValue
theorem dX0_swapValues_0 : decode cX0_swapValues 0 = .ok (.aload_n 0, 1) := by decide +kernel
theorem dX0_swapValues_1 : decode cX0_swapValues 1 = .ok (.iload_n 1, 1) := by decide +kernel
theorem dX0_swapValues_2 : decode cX0_swapValues 2 = .ok (.invokevirtual 34, 3) := by decide +kernel
theorem dX0_swapValues_5 : decode cX0_swapValues 5 = .ok (.istore_n 3, 1) := by decide +kernel
theorem dX0_swapValues_6 : decode cX0_swapValues 6 = .ok (.aload_n 0, 1) := by decide +kernel
theorem dX0_swapValues_7 : decode cX0_swapValues 7 = .ok (.iload_n 1, 1) := by decide +kernel
theorem dX0_swapValues_8 : decode cX0_swapValues 8 = .ok (.aload_n 0, 1) := by decide +kernel
theorem dX0_swapValues_9 : decode cX0_swapValues 9 = .ok (.iload_n 2, 1) := by decide +kernel
theorem dX0_swapValues_10 : decode cX0_swapValues 10 = .ok (.invokevirtual 34, 3) := by decide +kernel
theorem dX0_swapValues_13 : decode cX0_swapValues 13 = .ok (.invokevirtual 37, 3) := by decide +kernel
theorem dX0_swapValues_16 : decode cX0_swapValues 16 = .ok (.aload_n 0, 1) := by decide +kernel
theorem dX0_swapValues_17 : decode cX0_swapValues 17 = .ok (.iload_n 2, 1) := by decide +kernel
theorem dX0_swapValues_18 : decode cX0_swapValues 18 = .ok (.iload_n 3, 1) := by decide +kernel
theorem dX0_swapValues_19 : decode cX0_swapValues 19 = .ok (.invokevirtual 37, 3) := by decide +kernel
theorem dX0_swapValues_22 : decode cX0_swapValues 22 = .ok (.return_, 1) := by decide +kernel
set_option maxRecDepth 20000 in
theorem ggX0_isMarked_X0_has : GoodIn wsX0_isMarked wsX0_has := goodIn_r _ [6, 7, 8, 9, 10, 11] (by decide +kernel) (by decide +kernel)
set_option maxRecDepth 20000 in
theorem gX0_isMarked_X0_has : GoodIn wsX0_isMarked (wsV RX0 26 RX0 yX0_has wsX0_has) := goodIn_app (goodIn_of _ (by decide +kernel)) ggX0_isMarked_X0_has
theorem dX0_isMarked_0 : decode cX0_isMarked 0 = .ok (.aload_n 0, 1) := by decide +kernel
theorem dX0_isMarked_1 : decode cX0_isMarked 1 = .ok (.iload_n 1, 1) := by decide +kernel
theorem dX0_isMarked_2 : decode cX0_isMarked 2 = .ok (.invokevirtual 26, 3) := by decide +kernel
theorem dX0_isMarked_5 : decode cX0_isMarked 5 = .ok (.ifCond .eq 16, 3) := by decide +kernel
theorem dX0_isMarked_8 : decode cX0_isMarked 8 = .ok (.aload_n 0, 1) := by decide +kernel
theorem dX0_isMarked_9 : decode cX0_isMarked 9 = .ok (.getfield 22, 3) := by decide +kernel
theorem dX0_isMarked_12 : decode cX0_isMarked 12 = .ok (.iload_n 1, 1) := by decide +kernel
theorem dX0_isMarked_13 : decode cX0_isMarked 13 = .ok (.baload, 1) := by decide +kernel
theorem dX0_isMarked_14 : decode cX0_isMarked 14 = .ok (.ifCond .eq 7, 3) := by decide +kernel
theorem dX0_isMarked_17 : decode cX0_isMarked 17 = .ok (.iconst 1, 1) := by decide +kernel
theorem dX0_isMarked_18 : decode cX0_isMarked 18 = .ok (.goto 4, 3) := by decide +kernel
theorem dX0_isMarked_21 : decode cX0_isMarked 21 = .ok (.iconst 0, 1) := by decide +kernel
theorem dX0_isMarked_22 : decode cX0_isMarked 22 = .ok (.ireturn, 1) := by decide +kernel
set_option maxRecDepth 20000 in
theorem ggX0_putMark_X0_has : GoodIn wsX0_putMark wsX0_has := goodIn_r _ [6, 7, 8, 9, 10, 11] (by decide +kernel) (by decide +kernel)
set_option maxRecDepth 20000 in
theorem gX0_putMark_X0_has : GoodIn wsX0_putMark (wsV RX0 26 RX0 yX0_has wsX0_has) := goodIn_app (goodIn_of _ (by decide +kernel)) ggX0_putMark_X0_has
theorem dX0_putMark_0 : decode cX0_putMark 0 = .ok (.aload_n 0, 1) := by decide +kernel
theorem dX0_putMark_1 : decode cX0_putMark 1 = .ok (.iload_n 1, 1) := by decide +kernel
theorem dX0_putMark_2 : decode cX0_putMark 2 = .ok (.invokevirtual 26, 3) := by decide +kernel
theorem dX0_putMark_5 : decode cX0_putMark 5 = .ok (.ifCond .eq 10, 3) := by decide +kernel
theorem dX0_putMark_8 : decode cX0_putMark 8 = .ok (.aload_n 0, 1) := by decide +kernel
theorem dX0_putMark_9 : decode cX0_putMark 9 = .ok (.getfield 22, 3) := by decide +kernel
theorem dX0_putMark_12 : decode cX0_putMark 12 = .ok (.iload_n 1, 1) := by decide +kernel
theorem dX0_putMark_13 : decode cX0_putMark 13 = .ok (.iload_n 2, 1) := by decide +kernel
theorem dX0_putMark_14 : decode cX0_putMark 14 = .ok (.bastore, 1) := by decide +kernel
theorem dX0_putMark_15 : decode cX0_putMark 15 = .ok (.return_, 1) := by decide +kernel
set_option maxRecDepth 20000 in
theorem ggX0_countRoots_X0_isRoot : GoodIn wsX0_countRoots wsX0_isRoot := goodIn_r _ [6, 7, 8, 9, 5, 10, 11, 12, 13, 14, 15, 1, 16, 17, 18, 19] (by decide +kernel) (by decide +kernel)
set_option maxRecDepth 20000 in
theorem gX0_countRoots_X0_isRoot : GoodIn wsX0_countRoots (wsV RX0 41 RX0 yX0_isRoot wsX0_isRoot) := goodIn_app (goodIn_of _ (by decide +kernel)) ggX0_countRoots_X0_isRoot
theorem dX0_countRoots_0 : decode cX0_countRoots 0 = .ok (.iconst 0, 1) := by decide +kernel
theorem dX0_countRoots_1 : decode cX0_countRoots 1 = .ok (.istore_n 1, 1) := by decide +kernel
theorem dX0_countRoots_2 : decode cX0_countRoots 2 = .ok (.iconst 0, 1) := by decide +kernel
theorem dX0_countRoots_3 : decode cX0_countRoots 3 = .ok (.istore_n 2, 1) := by decide +kernel
theorem dX0_countRoots_4 : decode cX0_countRoots 4 = .ok (.iload_n 2, 1) := by decide +kernel
theorem dX0_countRoots_5 : decode cX0_countRoots 5 = .ok (.aload_n 0, 1) := by decide +kernel
theorem dX0_countRoots_6 : decode cX0_countRoots 6 = .ok (.getfield 9, 3) := by decide +kernel
theorem dX0_countRoots_9 : decode cX0_countRoots 9 = .ok (.if_icmp .ge 20, 3) := by decide +kernel
theorem dX0_countRoots_12 : decode cX0_countRoots 12 = .ok (.aload_n 0, 1) := by decide +kernel
theorem dX0_countRoots_13 : decode cX0_countRoots 13 = .ok (.iload_n 2, 1) := by decide +kernel
theorem dX0_countRoots_14 : decode cX0_countRoots 14 = .ok (.invokevirtual 41, 3) := by decide +kernel
theorem dX0_countRoots_17 : decode cX0_countRoots 17 = .ok (.ifCond .eq 6, 3) := by decide +kernel
theorem dX0_countRoots_20 : decode cX0_countRoots 20 = .ok (.iinc 1 1, 3) := by decide +kernel
theorem dX0_countRoots_23 : decode cX0_countRoots 23 = .ok (.iinc 2 1, 3) := by decide +kernel
theorem dX0_countRoots_26 : decode cX0_countRoots 26 = .ok (.goto (-22), 3) := by decide +kernel
theorem dX0_countRoots_29 : decode cX0_countRoots 29 = .ok (.iload_n 1, 1) := by decide +kernel
theorem dX0_countRoots_30 : decode cX0_countRoots 30 = .ok (.ireturn, 1) := by decide +kernel
set_option maxRecDepth 20000 in
theorem ggX0_depthOf_X0_parentOf : GoodIn wsX0_depthOf wsX0_parentOf := goodIn_r _ [5, 6, 7, 8, 9, 4, 10, 11, 12, 13, 14, 15] (by decide +kernel) (by decide +kernel)
set_option maxRecDepth 20000 in
theorem gX0_depthOf_X0_parentOf : GoodIn wsX0_depthOf (wsV RX0 30 RX0 yX0_parentOf wsX0_parentOf) := goodIn_app (goodIn_of _ (by decide +kernel)) ggX0_depthOf_X0_parentOf
theorem dX0_depthOf_0 : decode cX0_depthOf 0 = .ok (.iconst 0, 1) := by decide +kernel
theorem dX0_depthOf_1 : decode cX0_depthOf 1 = .ok (.istore_n 2, 1) := by decide +kernel
theorem dX0_depthOf_2 : decode cX0_depthOf 2 = .ok (.aload_n 0, 1) := by decide +kernel
theorem dX0_depthOf_3 : decode cX0_depthOf 3 = .ok (.iload_n 1, 1) := by decide +kernel
theorem dX0_depthOf_4 : decode cX0_depthOf 4 = .ok (.invokevirtual 30, 3) := by decide +kernel
theorem dX0_depthOf_7 : decode cX0_depthOf 7 = .ok (.istore_n 3, 1) := by decide +kernel
theorem dX0_depthOf_8 : decode cX0_depthOf 8 = .ok (.iload_n 2, 1) := by decide +kernel
theorem dX0_depthOf_9 : decode cX0_depthOf 9 = .ok (.bipush 64, 2) := by decide +kernel
theorem dX0_depthOf_11 : decode cX0_depthOf 11 = .ok (.if_icmp .ge 20, 3) := by decide +kernel
theorem dX0_depthOf_14 : decode cX0_depthOf 14 = .ok (.iload_n 3, 1) := by decide +kernel
theorem dX0_depthOf_15 : decode cX0_depthOf 15 = .ok (.iconst (-1), 1) := by decide +kernel
theorem dX0_depthOf_16 : decode cX0_depthOf 16 = .ok (.if_icmp .eq 15, 3) := by decide +kernel
theorem dX0_depthOf_19 : decode cX0_depthOf 19 = .ok (.aload_n 0, 1) := by decide +kernel
theorem dX0_depthOf_20 : decode cX0_depthOf 20 = .ok (.iload_n 3, 1) := by decide +kernel
theorem dX0_depthOf_21 : decode cX0_depthOf 21 = .ok (.invokevirtual 30, 3) := by decide +kernel
theorem dX0_depthOf_24 : decode cX0_depthOf 24 = .ok (.istore_n 3, 1) := by decide +kernel
theorem dX0_depthOf_25 : decode cX0_depthOf 25 = .ok (.iinc 2 1, 3) := by decide +kernel
theorem dX0_depthOf_28 : decode cX0_depthOf 28 = .ok (.goto (-20), 3) := by decide +kernel
theorem dX0_depthOf_31 : decode cX0_depthOf 31 = .ok (.iload_n 2, 1) := by decide +kernel
theorem dX0_depthOf_32 : decode cX0_depthOf 32 = .ok (.ireturn, 1) := by decide +kernel
set_option maxRecDepth 20000 in
theorem ggX0_rootOf_X0_depthOf : GoodIn wsX0_rootOf wsX0_depthOf := goodIn_r _ [5, 6, 7, 8, 4, 9, 10, 11, 12, 13, 14, 15, 20, 21, 22, 23] (by decide +kernel) (by decide +kernel)
set_option maxRecDepth 20000 in
theorem gX0_rootOf_X0_depthOf : GoodIn wsX0_rootOf (wsV RX0 44 RX0 yX0_depthOf wsX0_depthOf) := goodIn_app (goodIn_of _ (by decide +kernel)) ggX0_rootOf_X0_depthOf
set_option maxRecDepth 20000 in
theorem ggX0_rootOf_X0_climb : GoodIn wsX0_rootOf wsX0_climb := goodIn_r _ [19, 6, 7, 8, 4, 9, 10, 11, 12, 13, 14, 15, 20, 21, 22, 23] (by decide +kernel) (by decide +kernel)
set_option maxRecDepth 20000 in
theorem gX0_rootOf_X0_climb : GoodIn wsX0_rootOf (wsV RX0 47 RX0 yX0_climb wsX0_climb) := goodIn_app (goodIn_of _ (by decide +kernel)) ggX0_rootOf_X0_climb
theorem dX0_rootOf_0 : decode cX0_rootOf 0 = .ok (.aload_n 0, 1) := by decide +kernel
theorem dX0_rootOf_1 : decode cX0_rootOf 1 = .ok (.iload_n 1, 1) := by decide +kernel
theorem dX0_rootOf_2 : decode cX0_rootOf 2 = .ok (.aload_n 0, 1) := by decide +kernel
theorem dX0_rootOf_3 : decode cX0_rootOf 3 = .ok (.iload_n 1, 1) := by decide +kernel
theorem dX0_rootOf_4 : decode cX0_rootOf 4 = .ok (.invokevirtual 44, 3) := by decide +kernel
theorem dX0_rootOf_7 : decode cX0_rootOf 7 = .ok (.invokevirtual 47, 3) := by decide +kernel
theorem dX0_rootOf_10 : decode cX0_rootOf 10 = .ok (.ireturn, 1) := by decide +kernel
set_option maxRecDepth 20000 in
theorem ggX0_climb_X0_parentOf : GoodIn wsX0_climb wsX0_parentOf := goodIn_r _ [5, 6, 7, 8, 9, 4, 10, 11, 12, 13, 14, 15] (by decide +kernel) (by decide +kernel)
set_option maxRecDepth 20000 in
theorem gX0_climb_X0_parentOf : GoodIn wsX0_climb (wsV RX0 30 RX0 yX0_parentOf wsX0_parentOf) := goodIn_app (goodIn_of _ (by decide +kernel)) ggX0_climb_X0_parentOf
theorem dX0_climb_0 : decode cX0_climb 0 = .ok (.iload_n 1, 1) := by decide +kernel
theorem dX0_climb_1 : decode cX0_climb 1 = .ok (.istore_n 3, 1) := by decide +kernel
theorem dX0_climb_2 : decode cX0_climb 2 = .ok (.iconst 0, 1) := by decide +kernel
theorem dX0_climb_3 : decode cX0_climb 3 = .ok (.istore 4, 2) := by decide +kernel
theorem dX0_climb_5 : decode cX0_climb 5 = .ok (.iload 4, 2) := by decide +kernel
theorem dX0_climb_7 : decode cX0_climb 7 = .ok (.iload_n 2, 1) := by decide +kernel
theorem dX0_climb_8 : decode cX0_climb 8 = .ok (.if_icmp .ge 22, 3) := by decide +kernel
theorem dX0_climb_11 : decode cX0_climb 11 = .ok (.iload 4, 2) := by decide +kernel
theorem dX0_climb_13 : decode cX0_climb 13 = .ok (.bipush 64, 2) := by decide +kernel
theorem dX0_climb_15 : decode cX0_climb 15 = .ok (.if_icmp .ge 15, 3) := by decide +kernel
theorem dX0_climb_18 : decode cX0_climb 18 = .ok (.aload_n 0, 1) := by decide +kernel
theorem dX0_climb_19 : decode cX0_climb 19 = .ok (.iload_n 3, 1) := by decide +kernel
theorem dX0_climb_20 : decode cX0_climb 20 = .ok (.invokevirtual 30, 3) := by decide +kernel
theorem dX0_climb_23 : decode cX0_climb 23 = .ok (.istore_n 3, 1) := by decide +kernel
theorem dX0_climb_24 : decode cX0_climb 24 = .ok (.iinc 4 1, 3) := by decide +kernel
theorem dX0_climb_27 : decode cX0_climb 27 = .ok (.goto (-22), 3) := by decide +kernel
theorem dX0_climb_30 : decode cX0_climb 30 = .ok (.iload_n 3, 1) := by decide +kernel
theorem dX0_climb_31 : decode cX0_climb 31 = .ok (.ireturn, 1) := by decide +kernel
set_option maxRecDepth 20000 in
theorem ggX0_isBelow_X0_depthOf : GoodIn wsX0_isBelow wsX0_depthOf := goodIn_r _ [5, 6, 7, 8, 4, 9, 10, 11, 12, 13, 14, 15, 20, 21, 22, 23] (by decide +kernel) (by decide +kernel)
set_option maxRecDepth 20000 in
theorem gX0_isBelow_X0_depthOf : GoodIn wsX0_isBelow (wsV RX0 44 RX0 yX0_depthOf wsX0_depthOf) := goodIn_app (goodIn_of _ (by decide +kernel)) ggX0_isBelow_X0_depthOf
set_option maxRecDepth 20000 in
theorem ggX0_isBelow_X0_climb : GoodIn wsX0_isBelow wsX0_climb := goodIn_r _ [19, 6, 7, 8, 4, 9, 10, 11, 12, 13, 14, 15, 20, 21, 22, 23] (by decide +kernel) (by decide +kernel)
set_option maxRecDepth 20000 in
theorem gX0_isBelow_X0_climb : GoodIn wsX0_isBelow (wsV RX0 47 RX0 yX0_climb wsX0_climb) := goodIn_app (goodIn_of _ (by decide +kernel)) ggX0_isBelow_X0_climb
theorem dX0_isBelow_0 : decode cX0_isBelow 0 = .ok (.aload_n 0, 1) := by decide +kernel
theorem dX0_isBelow_1 : decode cX0_isBelow 1 = .ok (.iload_n 1, 1) := by decide +kernel
theorem dX0_isBelow_2 : decode cX0_isBelow 2 = .ok (.invokevirtual 44, 3) := by decide +kernel
theorem dX0_isBelow_5 : decode cX0_isBelow 5 = .ok (.aload_n 0, 1) := by decide +kernel
theorem dX0_isBelow_6 : decode cX0_isBelow 6 = .ok (.iload_n 2, 1) := by decide +kernel
theorem dX0_isBelow_7 : decode cX0_isBelow 7 = .ok (.invokevirtual 44, 3) := by decide +kernel
theorem dX0_isBelow_10 : decode cX0_isBelow 10 = .ok (.isub, 1) := by decide +kernel
theorem dX0_isBelow_11 : decode cX0_isBelow 11 = .ok (.istore_n 3, 1) := by decide +kernel
theorem dX0_isBelow_12 : decode cX0_isBelow 12 = .ok (.iload_n 3, 1) := by decide +kernel
theorem dX0_isBelow_13 : decode cX0_isBelow 13 = .ok (.ifCond .lt 17, 3) := by decide +kernel
theorem dX0_isBelow_16 : decode cX0_isBelow 16 = .ok (.aload_n 0, 1) := by decide +kernel
theorem dX0_isBelow_17 : decode cX0_isBelow 17 = .ok (.iload_n 1, 1) := by decide +kernel
theorem dX0_isBelow_18 : decode cX0_isBelow 18 = .ok (.iload_n 3, 1) := by decide +kernel
theorem dX0_isBelow_19 : decode cX0_isBelow 19 = .ok (.invokevirtual 47, 3) := by decide +kernel
theorem dX0_isBelow_22 : decode cX0_isBelow 22 = .ok (.iload_n 2, 1) := by decide +kernel
theorem dX0_isBelow_23 : decode cX0_isBelow 23 = .ok (.if_icmp .ne 7, 3) := by decide +kernel
theorem dX0_isBelow_26 : decode cX0_isBelow 26 = .ok (.iconst 1, 1) := by decide +kernel
theorem dX0_isBelow_27 : decode cX0_isBelow 27 = .ok (.goto 4, 3) := by decide +kernel
theorem dX0_isBelow_30 : decode cX0_isBelow 30 = .ok (.iconst 0, 1) := by decide +kernel
theorem dX0_isBelow_31 : decode cX0_isBelow 31 = .ok (.ireturn, 1) := by decide +kernel
set_option maxRecDepth 20000 in
theorem ggX0_countBelow_X0_isBelow : GoodIn wsX0_countBelow wsX0_isBelow := goodIn_r _ [6, 7, 8, 9, 5, 10, 11, 12, 13, 14, 15, 16, 17, 18, 19, 1, 20, 21, 22, 23, 24, 25, 26, 27] (by decide +kernel) (by decide +kernel)
set_option maxRecDepth 20000 in
theorem gX0_countBelow_X0_isBelow : GoodIn wsX0_countBelow (wsV RX0 51 RX0 yX0_isBelow wsX0_isBelow) := goodIn_app (goodIn_of _ (by decide +kernel)) ggX0_countBelow_X0_isBelow
theorem dX0_countBelow_0 : decode cX0_countBelow 0 = .ok (.iconst 0, 1) := by decide +kernel
theorem dX0_countBelow_1 : decode cX0_countBelow 1 = .ok (.istore_n 2, 1) := by decide +kernel
theorem dX0_countBelow_2 : decode cX0_countBelow 2 = .ok (.iconst 0, 1) := by decide +kernel
theorem dX0_countBelow_3 : decode cX0_countBelow 3 = .ok (.istore_n 3, 1) := by decide +kernel
theorem dX0_countBelow_4 : decode cX0_countBelow 4 = .ok (.iload_n 3, 1) := by decide +kernel
theorem dX0_countBelow_5 : decode cX0_countBelow 5 = .ok (.aload_n 0, 1) := by decide +kernel
theorem dX0_countBelow_6 : decode cX0_countBelow 6 = .ok (.getfield 9, 3) := by decide +kernel
theorem dX0_countBelow_9 : decode cX0_countBelow 9 = .ok (.if_icmp .ge 21, 3) := by decide +kernel
theorem dX0_countBelow_12 : decode cX0_countBelow 12 = .ok (.aload_n 0, 1) := by decide +kernel
theorem dX0_countBelow_13 : decode cX0_countBelow 13 = .ok (.iload_n 3, 1) := by decide +kernel
theorem dX0_countBelow_14 : decode cX0_countBelow 14 = .ok (.iload_n 1, 1) := by decide +kernel
theorem dX0_countBelow_15 : decode cX0_countBelow 15 = .ok (.invokevirtual 51, 3) := by decide +kernel
theorem dX0_countBelow_18 : decode cX0_countBelow 18 = .ok (.ifCond .eq 6, 3) := by decide +kernel
theorem dX0_countBelow_21 : decode cX0_countBelow 21 = .ok (.iinc 2 1, 3) := by decide +kernel
theorem dX0_countBelow_24 : decode cX0_countBelow 24 = .ok (.iinc 3 1, 3) := by decide +kernel
theorem dX0_countBelow_27 : decode cX0_countBelow 27 = .ok (.goto (-23), 3) := by decide +kernel
theorem dX0_countBelow_30 : decode cX0_countBelow 30 = .ok (.iload_n 2, 1) := by decide +kernel
theorem dX0_countBelow_31 : decode cX0_countBelow 31 = .ok (.ireturn, 1) := by decide +kernel
set_option maxRecDepth 20000 in
theorem ggX0_meetingPoint_X0_depthOf : GoodIn wsX0_meetingPoint wsX0_depthOf := goodIn_r _ [5, 6, 7, 8, 4, 9, 10, 11, 12, 13, 14, 15, 20, 21, 22, 23] (by decide +kernel) (by decide +kernel)
set_option maxRecDepth 20000 in
theorem gX0_meetingPoint_X0_depthOf : GoodIn wsX0_meetingPoint (wsV RX0 44 RX0 yX0_depthOf wsX0_depthOf) := goodIn_app (goodIn_of _ (by decide +kernel)) ggX0_meetingPoint_X0_depthOf
set_option maxRecDepth 20000 in
theorem ggX0_meetingPoint_X0_climb : GoodIn wsX0_meetingPoint wsX0_climb := goodIn_r _ [19, 6, 7, 8, 4, 9, 10, 11, 12, 13, 14, 15, 20, 21, 22, 23] (by decide +kernel) (by decide +kernel)
set_option maxRecDepth 20000 in
theorem gX0_meetingPoint_X0_climb : GoodIn wsX0_meetingPoint (wsV RX0 47 RX0 yX0_climb wsX0_climb) := goodIn_app (goodIn_of _ (by decide +kernel)) ggX0_meetingPoint_X0_climb
set_option maxRecDepth 20000 in
theorem ggX0_meetingPoint_X0_parentOf : GoodIn wsX0_meetingPoint wsX0_parentOf := goodIn_r _ [9, 10, 11, 12, 13, 4, 14, 15, 20, 21, 22, 23] (by decide +kernel) (by decide +kernel)
set_option maxRecDepth 20000 in
theorem gX0_meetingPoint_X0_parentOf : GoodIn wsX0_meetingPoint (wsV RX0 30 RX0 yX0_parentOf wsX0_parentOf) := goodIn_app (goodIn_of _ (by decide +kernel)) ggX0_meetingPoint_X0_parentOf
theorem dX0_meetingPoint_0 : decode cX0_meetingPoint 0 = .ok (.aload_n 0, 1) := by decide +kernel
theorem dX0_meetingPoint_1 : decode cX0_meetingPoint 1 = .ok (.iload_n 1, 1) := by decide +kernel
theorem dX0_meetingPoint_2 : decode cX0_meetingPoint 2 = .ok (.invokevirtual 44, 3) := by decide +kernel
theorem dX0_meetingPoint_5 : decode cX0_meetingPoint 5 = .ok (.aload_n 0, 1) := by decide +kernel
theorem dX0_meetingPoint_6 : decode cX0_meetingPoint 6 = .ok (.iload_n 2, 1) := by decide +kernel
theorem dX0_meetingPoint_7 : decode cX0_meetingPoint 7 = .ok (.invokevirtual 44, 3) := by decide +kernel
theorem dX0_meetingPoint_10 : decode cX0_meetingPoint 10 = .ok (.isub, 1) := by decide +kernel
theorem dX0_meetingPoint_11 : decode cX0_meetingPoint 11 = .ok (.istore_n 3, 1) := by decide +kernel
theorem dX0_meetingPoint_12 : decode cX0_meetingPoint 12 = .ok (.aload_n 0, 1) := by decide +kernel
theorem dX0_meetingPoint_13 : decode cX0_meetingPoint 13 = .ok (.iload_n 1, 1) := by decide +kernel
theorem dX0_meetingPoint_14 : decode cX0_meetingPoint 14 = .ok (.iload_n 3, 1) := by decide +kernel
theorem dX0_meetingPoint_15 : decode cX0_meetingPoint 15 = .ok (.invokevirtual 47, 3) := by decide +kernel
theorem dX0_meetingPoint_18 : decode cX0_meetingPoint 18 = .ok (.istore 4, 2) := by decide +kernel
theorem dX0_meetingPoint_20 : decode cX0_meetingPoint 20 = .ok (.aload_n 0, 1) := by decide +kernel
theorem dX0_meetingPoint_21 : decode cX0_meetingPoint 21 = .ok (.iload_n 2, 1) := by decide +kernel
theorem dX0_meetingPoint_22 : decode cX0_meetingPoint 22 = .ok (.iload_n 3, 1) := by decide +kernel
theorem dX0_meetingPoint_23 : decode cX0_meetingPoint 23 = .ok (.ineg, 1) := by decide +kernel
theorem dX0_meetingPoint_24 : decode cX0_meetingPoint 24 = .ok (.invokevirtual 47, 3) := by decide +kernel
theorem dX0_meetingPoint_27 : decode cX0_meetingPoint 27 = .ok (.istore 5, 2) := by decide +kernel
theorem dX0_meetingPoint_29 : decode cX0_meetingPoint 29 = .ok (.iconst 0, 1) := by decide +kernel
theorem dX0_meetingPoint_30 : decode cX0_meetingPoint 30 = .ok (.istore 6, 2) := by decide +kernel
theorem dX0_meetingPoint_32 : decode cX0_meetingPoint 32 = .ok (.iload 6, 2) := by decide +kernel
theorem dX0_meetingPoint_34 : decode cX0_meetingPoint 34 = .ok (.bipush 64, 2) := by decide +kernel
theorem dX0_meetingPoint_36 : decode cX0_meetingPoint 36 = .ok (.if_icmp .ge 32, 3) := by decide +kernel
theorem dX0_meetingPoint_39 : decode cX0_meetingPoint 39 = .ok (.iload 4, 2) := by decide +kernel
theorem dX0_meetingPoint_41 : decode cX0_meetingPoint 41 = .ok (.iload 5, 2) := by decide +kernel
theorem dX0_meetingPoint_43 : decode cX0_meetingPoint 43 = .ok (.if_icmp .eq 25, 3) := by decide +kernel
theorem dX0_meetingPoint_46 : decode cX0_meetingPoint 46 = .ok (.aload_n 0, 1) := by decide +kernel
theorem dX0_meetingPoint_47 : decode cX0_meetingPoint 47 = .ok (.iload 4, 2) := by decide +kernel
theorem dX0_meetingPoint_49 : decode cX0_meetingPoint 49 = .ok (.invokevirtual 30, 3) := by decide +kernel
theorem dX0_meetingPoint_52 : decode cX0_meetingPoint 52 = .ok (.istore 4, 2) := by decide +kernel
theorem dX0_meetingPoint_54 : decode cX0_meetingPoint 54 = .ok (.aload_n 0, 1) := by decide +kernel
theorem dX0_meetingPoint_55 : decode cX0_meetingPoint 55 = .ok (.iload 5, 2) := by decide +kernel
theorem dX0_meetingPoint_57 : decode cX0_meetingPoint 57 = .ok (.invokevirtual 30, 3) := by decide +kernel
theorem dX0_meetingPoint_60 : decode cX0_meetingPoint 60 = .ok (.istore 5, 2) := by decide +kernel
theorem dX0_meetingPoint_62 : decode cX0_meetingPoint 62 = .ok (.iinc 6 1, 3) := by decide +kernel
theorem dX0_meetingPoint_65 : decode cX0_meetingPoint 65 = .ok (.goto (-33), 3) := by decide +kernel
theorem dX0_meetingPoint_68 : decode cX0_meetingPoint 68 = .ok (.iload 4, 2) := by decide +kernel
theorem dX0_meetingPoint_70 : decode cX0_meetingPoint 70 = .ok (.ireturn, 1) := by decide +kernel
set_option maxRecDepth 20000 in
theorem ggX0_edgesBetween_X0_depthOf : GoodIn wsX0_edgesBetween wsX0_depthOf := goodIn_r _ [5, 6, 7, 8, 4, 9, 10, 11, 12, 13, 14, 15, 24, 25, 26, 27] (by decide +kernel) (by decide +kernel)
set_option maxRecDepth 20000 in
theorem gX0_edgesBetween_X0_depthOf : GoodIn wsX0_edgesBetween (wsV RX0 44 RX0 yX0_depthOf wsX0_depthOf) := goodIn_app (goodIn_of _ (by decide +kernel)) ggX0_edgesBetween_X0_depthOf
set_option maxRecDepth 20000 in
theorem ggX0_edgesBetween_X0_meetingPoint : GoodIn wsX0_edgesBetween wsX0_meetingPoint := goodIn_r _ [19, 1, 2, 3, 4, 5, 6, 7, 8, 9, 10, 11, 12, 13, 14, 15, 20, 21, 22, 23, 24, 25, 26, 27] (by decide +kernel) (by decide +kernel)
set_option maxRecDepth 20000 in
theorem gX0_edgesBetween_X0_meetingPoint : GoodIn wsX0_edgesBetween (wsV RX0 55 RX0 yX0_meetingPoint wsX0_meetingPoint) := goodIn_app (goodIn_of _ (by decide +kernel)) ggX0_edgesBetween_X0_meetingPoint
theorem dX0_edgesBetween_0 : decode cX0_edgesBetween 0 = .ok (.aload_n 0, 1) := by decide +kernel
theorem dX0_edgesBetween_1 : decode cX0_edgesBetween 1 = .ok (.iload_n 1, 1) := by decide +kernel
theorem dX0_edgesBetween_2 : decode cX0_edgesBetween 2 = .ok (.invokevirtual 44, 3) := by decide +kernel
theorem dX0_edgesBetween_5 : decode cX0_edgesBetween 5 = .ok (.aload_n 0, 1) := by decide +kernel
theorem dX0_edgesBetween_6 : decode cX0_edgesBetween 6 = .ok (.iload_n 2, 1) := by decide +kernel
theorem dX0_edgesBetween_7 : decode cX0_edgesBetween 7 = .ok (.invokevirtual 44, 3) := by decide +kernel
theorem dX0_edgesBetween_10 : decode cX0_edgesBetween 10 = .ok (.iadd, 1) := by decide +kernel
theorem dX0_edgesBetween_11 : decode cX0_edgesBetween 11 = .ok (.iconst 2, 1) := by decide +kernel
theorem dX0_edgesBetween_12 : decode cX0_edgesBetween 12 = .ok (.aload_n 0, 1) := by decide +kernel
theorem dX0_edgesBetween_13 : decode cX0_edgesBetween 13 = .ok (.aload_n 0, 1) := by decide +kernel
theorem dX0_edgesBetween_14 : decode cX0_edgesBetween 14 = .ok (.iload_n 1, 1) := by decide +kernel
theorem dX0_edgesBetween_15 : decode cX0_edgesBetween 15 = .ok (.iload_n 2, 1) := by decide +kernel
theorem dX0_edgesBetween_16 : decode cX0_edgesBetween 16 = .ok (.invokevirtual 55, 3) := by decide +kernel
theorem dX0_edgesBetween_19 : decode cX0_edgesBetween 19 = .ok (.invokevirtual 44, 3) := by decide +kernel
theorem dX0_edgesBetween_22 : decode cX0_edgesBetween 22 = .ok (.imul, 1) := by decide +kernel
theorem dX0_edgesBetween_23 : decode cX0_edgesBetween 23 = .ok (.isub, 1) := by decide +kernel
theorem dX0_edgesBetween_24 : decode cX0_edgesBetween 24 = .ok (.ireturn, 1) := by decide +kernel
set_option maxRecDepth 20000 in
theorem ggX0_farthestFrom_X0_rootOf : GoodIn wsX0_farthestFrom wsX0_rootOf := goodIn_r _ [6, 7, 8, 9, 5, 10, 11, 12, 13, 14, 15, 16, 17, 18, 19, 1, 20, 21, 22, 23, 32, 33, 34, 35] (by decide +kernel) (by decide +kernel)
set_option maxRecDepth 20000 in
theorem gX0_farthestFrom_X0_rootOf : GoodIn wsX0_farthestFrom (wsV RX0 58 RX0 yX0_rootOf wsX0_rootOf) := goodIn_app (goodIn_of _ (by decide +kernel)) ggX0_farthestFrom_X0_rootOf
set_option maxRecDepth 20000 in
theorem ggX0_farthestFrom_X0_edgesBetween : GoodIn wsX0_farthestFrom wsX0_edgesBetween := goodIn_r _ [27, 7, 8, 9, 5, 10, 11, 12, 13, 14, 15, 16, 17, 18, 19, 1, 28, 29, 30, 31, 20, 21, 22, 23, 32, 33, 34, 35] (by decide +kernel) (by decide +kernel)
set_option maxRecDepth 20000 in
theorem gX0_farthestFrom_X0_edgesBetween : GoodIn wsX0_farthestFrom (wsV RX0 61 RX0 yX0_edgesBetween wsX0_edgesBetween) := goodIn_app (goodIn_of _ (by decide +kernel)) ggX0_farthestFrom_X0_edgesBetween
theorem dX0_farthestFrom_0 : decode cX0_farthestFrom 0 = .ok (.aload_n 0, 1) := by decide +kernel
theorem dX0_farthestFrom_1 : decode cX0_farthestFrom 1 = .ok (.iload_n 1, 1) := by decide +kernel
theorem dX0_farthestFrom_2 : decode cX0_farthestFrom 2 = .ok (.invokevirtual 58, 3) := by decide +kernel
theorem dX0_farthestFrom_5 : decode cX0_farthestFrom 5 = .ok (.istore_n 2, 1) := by decide +kernel
theorem dX0_farthestFrom_6 : decode cX0_farthestFrom 6 = .ok (.iload_n 1, 1) := by decide +kernel
theorem dX0_farthestFrom_7 : decode cX0_farthestFrom 7 = .ok (.istore_n 3, 1) := by decide +kernel
theorem dX0_farthestFrom_8 : decode cX0_farthestFrom 8 = .ok (.iconst 0, 1) := by decide +kernel
theorem dX0_farthestFrom_9 : decode cX0_farthestFrom 9 = .ok (.istore 4, 2) := by decide +kernel
theorem dX0_farthestFrom_11 : decode cX0_farthestFrom 11 = .ok (.iconst 0, 1) := by decide +kernel
theorem dX0_farthestFrom_12 : decode cX0_farthestFrom 12 = .ok (.istore 5, 2) := by decide +kernel
theorem dX0_farthestFrom_14 : decode cX0_farthestFrom 14 = .ok (.iload 5, 2) := by decide +kernel
theorem dX0_farthestFrom_16 : decode cX0_farthestFrom 16 = .ok (.aload_n 0, 1) := by decide +kernel
theorem dX0_farthestFrom_17 : decode cX0_farthestFrom 17 = .ok (.getfield 9, 3) := by decide +kernel
theorem dX0_farthestFrom_20 : decode cX0_farthestFrom 20 = .ok (.if_icmp .ge 46, 3) := by decide +kernel
theorem dX0_farthestFrom_23 : decode cX0_farthestFrom 23 = .ok (.aload_n 0, 1) := by decide +kernel
theorem dX0_farthestFrom_24 : decode cX0_farthestFrom 24 = .ok (.iload 5, 2) := by decide +kernel
theorem dX0_farthestFrom_26 : decode cX0_farthestFrom 26 = .ok (.invokevirtual 58, 3) := by decide +kernel
theorem dX0_farthestFrom_29 : decode cX0_farthestFrom 29 = .ok (.iload_n 2, 1) := by decide +kernel
theorem dX0_farthestFrom_30 : decode cX0_farthestFrom 30 = .ok (.if_icmp .ne 13, 3) := by decide +kernel
theorem dX0_farthestFrom_33 : decode cX0_farthestFrom 33 = .ok (.aload_n 0, 1) := by decide +kernel
theorem dX0_farthestFrom_34 : decode cX0_farthestFrom 34 = .ok (.iload_n 1, 1) := by decide +kernel
theorem dX0_farthestFrom_35 : decode cX0_farthestFrom 35 = .ok (.iload 5, 2) := by decide +kernel
theorem dX0_farthestFrom_37 : decode cX0_farthestFrom 37 = .ok (.invokevirtual 61, 3) := by decide +kernel
theorem dX0_farthestFrom_40 : decode cX0_farthestFrom 40 = .ok (.goto 4, 3) := by decide +kernel
theorem dX0_farthestFrom_43 : decode cX0_farthestFrom 43 = .ok (.iconst 0, 1) := by decide +kernel
theorem dX0_farthestFrom_44 : decode cX0_farthestFrom 44 = .ok (.istore 6, 2) := by decide +kernel
theorem dX0_farthestFrom_46 : decode cX0_farthestFrom 46 = .ok (.iload 6, 2) := by decide +kernel
theorem dX0_farthestFrom_48 : decode cX0_farthestFrom 48 = .ok (.iload 4, 2) := by decide +kernel
theorem dX0_farthestFrom_50 : decode cX0_farthestFrom 50 = .ok (.if_icmp .le 10, 3) := by decide +kernel
theorem dX0_farthestFrom_53 : decode cX0_farthestFrom 53 = .ok (.iload 5, 2) := by decide +kernel
theorem dX0_farthestFrom_55 : decode cX0_farthestFrom 55 = .ok (.istore_n 3, 1) := by decide +kernel
theorem dX0_farthestFrom_56 : decode cX0_farthestFrom 56 = .ok (.iload 6, 2) := by decide +kernel
theorem dX0_farthestFrom_58 : decode cX0_farthestFrom 58 = .ok (.istore 4, 2) := by decide +kernel
theorem dX0_farthestFrom_60 : decode cX0_farthestFrom 60 = .ok (.iinc 5 1, 3) := by decide +kernel
theorem dX0_farthestFrom_63 : decode cX0_farthestFrom 63 = .ok (.goto (-49), 3) := by decide +kernel
theorem dX0_farthestFrom_66 : decode cX0_farthestFrom 66 = .ok (.iload_n 3, 1) := by decide +kernel
theorem dX0_farthestFrom_67 : decode cX0_farthestFrom 67 = .ok (.ireturn, 1) := by decide +kernel
set_option maxRecDepth 20000 in
theorem ggX0_nearestMarkOf_X0_rootOf : GoodIn wsX0_nearestMarkOf wsX0_rootOf := goodIn_r _ [6, 7, 8, 9, 5, 10, 11, 12, 13, 14, 15, 16, 17, 18, 19, 1, 20, 21, 22, 23, 37, 38, 39, 40] (by decide +kernel) (by decide +kernel)
set_option maxRecDepth 20000 in
theorem gX0_nearestMarkOf_X0_rootOf : GoodIn wsX0_nearestMarkOf (wsV RX0 58 RX0 yX0_rootOf wsX0_rootOf) := goodIn_app (goodIn_of _ (by decide +kernel)) ggX0_nearestMarkOf_X0_rootOf
set_option maxRecDepth 20000 in
theorem ggX0_nearestMarkOf_X0_isMarked : GoodIn wsX0_nearestMarkOf wsX0_isMarked := goodIn_r _ [27, 28, 16, 17, 18, 5, 19, 1, 37, 38, 39, 40] (by decide +kernel) (by decide +kernel)
set_option maxRecDepth 20000 in
theorem gX0_nearestMarkOf_X0_isMarked : GoodIn wsX0_nearestMarkOf (wsV RX0 64 RX0 yX0_isMarked wsX0_isMarked) := goodIn_app (goodIn_of _ (by decide +kernel)) ggX0_nearestMarkOf_X0_isMarked
set_option maxRecDepth 20000 in
theorem ggX0_nearestMarkOf_X0_edgesBetween : GoodIn wsX0_nearestMarkOf wsX0_edgesBetween := goodIn_r _ [32, 7, 8, 9, 5, 10, 11, 12, 13, 14, 15, 16, 17, 18, 19, 1, 33, 34, 35, 36, 20, 21, 22, 23, 37, 38, 39, 40] (by decide +kernel) (by decide +kernel)
set_option maxRecDepth 20000 in
theorem gX0_nearestMarkOf_X0_edgesBetween : GoodIn wsX0_nearestMarkOf (wsV RX0 61 RX0 yX0_edgesBetween wsX0_edgesBetween) := goodIn_app (goodIn_of _ (by decide +kernel)) ggX0_nearestMarkOf_X0_edgesBetween
theorem dX0_nearestMarkOf_0 : decode cX0_nearestMarkOf 0 = .ok (.aload_n 0, 1) := by decide +kernel
theorem dX0_nearestMarkOf_1 : decode cX0_nearestMarkOf 1 = .ok (.iload_n 1, 1) := by decide +kernel
theorem dX0_nearestMarkOf_2 : decode cX0_nearestMarkOf 2 = .ok (.invokevirtual 58, 3) := by decide +kernel
theorem dX0_nearestMarkOf_5 : decode cX0_nearestMarkOf 5 = .ok (.istore_n 2, 1) := by decide +kernel
theorem dX0_nearestMarkOf_6 : decode cX0_nearestMarkOf 6 = .ok (.iconst (-1), 1) := by decide +kernel
theorem dX0_nearestMarkOf_7 : decode cX0_nearestMarkOf 7 = .ok (.istore_n 3, 1) := by decide +kernel
theorem dX0_nearestMarkOf_8 : decode cX0_nearestMarkOf 8 = .ok (.bipush 64, 2) := by decide +kernel
theorem dX0_nearestMarkOf_10 : decode cX0_nearestMarkOf 10 = .ok (.istore 4, 2) := by decide +kernel
theorem dX0_nearestMarkOf_12 : decode cX0_nearestMarkOf 12 = .ok (.iconst 0, 1) := by decide +kernel
theorem dX0_nearestMarkOf_13 : decode cX0_nearestMarkOf 13 = .ok (.istore 5, 2) := by decide +kernel
theorem dX0_nearestMarkOf_15 : decode cX0_nearestMarkOf 15 = .ok (.iload 5, 2) := by decide +kernel
theorem dX0_nearestMarkOf_17 : decode cX0_nearestMarkOf 17 = .ok (.aload_n 0, 1) := by decide +kernel
theorem dX0_nearestMarkOf_18 : decode cX0_nearestMarkOf 18 = .ok (.getfield 9, 3) := by decide +kernel
theorem dX0_nearestMarkOf_21 : decode cX0_nearestMarkOf 21 = .ok (.if_icmp .ge 68, 3) := by decide +kernel
theorem dX0_nearestMarkOf_24 : decode cX0_nearestMarkOf 24 = .ok (.aload_n 0, 1) := by decide +kernel
theorem dX0_nearestMarkOf_25 : decode cX0_nearestMarkOf 25 = .ok (.iload 5, 2) := by decide +kernel
theorem dX0_nearestMarkOf_27 : decode cX0_nearestMarkOf 27 = .ok (.invokevirtual 64, 3) := by decide +kernel
theorem dX0_nearestMarkOf_30 : decode cX0_nearestMarkOf 30 = .ok (.ifCond .eq 17, 3) := by decide +kernel
theorem dX0_nearestMarkOf_33 : decode cX0_nearestMarkOf 33 = .ok (.aload_n 0, 1) := by decide +kernel
theorem dX0_nearestMarkOf_34 : decode cX0_nearestMarkOf 34 = .ok (.iload 5, 2) := by decide +kernel
theorem dX0_nearestMarkOf_36 : decode cX0_nearestMarkOf 36 = .ok (.invokevirtual 58, 3) := by decide +kernel
theorem dX0_nearestMarkOf_39 : decode cX0_nearestMarkOf 39 = .ok (.iload_n 2, 1) := by decide +kernel
theorem dX0_nearestMarkOf_40 : decode cX0_nearestMarkOf 40 = .ok (.if_icmp .ne 7, 3) := by decide +kernel
theorem dX0_nearestMarkOf_43 : decode cX0_nearestMarkOf 43 = .ok (.iconst 1, 1) := by decide +kernel
theorem dX0_nearestMarkOf_44 : decode cX0_nearestMarkOf 44 = .ok (.goto 4, 3) := by decide +kernel
theorem dX0_nearestMarkOf_47 : decode cX0_nearestMarkOf 47 = .ok (.iconst 0, 1) := by decide +kernel
theorem dX0_nearestMarkOf_48 : decode cX0_nearestMarkOf 48 = .ok (.istore 6, 2) := by decide +kernel
theorem dX0_nearestMarkOf_50 : decode cX0_nearestMarkOf 50 = .ok (.iload 6, 2) := by decide +kernel
theorem dX0_nearestMarkOf_52 : decode cX0_nearestMarkOf 52 = .ok (.ifCond .eq 13, 3) := by decide +kernel
theorem dX0_nearestMarkOf_55 : decode cX0_nearestMarkOf 55 = .ok (.aload_n 0, 1) := by decide +kernel
theorem dX0_nearestMarkOf_56 : decode cX0_nearestMarkOf 56 = .ok (.iload_n 1, 1) := by decide +kernel
theorem dX0_nearestMarkOf_57 : decode cX0_nearestMarkOf 57 = .ok (.iload 5, 2) := by decide +kernel
theorem dX0_nearestMarkOf_59 : decode cX0_nearestMarkOf 59 = .ok (.invokevirtual 61, 3) := by decide +kernel
theorem dX0_nearestMarkOf_62 : decode cX0_nearestMarkOf 62 = .ok (.goto 5, 3) := by decide +kernel
theorem dX0_nearestMarkOf_65 : decode cX0_nearestMarkOf 65 = .ok (.bipush 64, 2) := by decide +kernel
theorem dX0_nearestMarkOf_67 : decode cX0_nearestMarkOf 67 = .ok (.istore 7, 2) := by decide +kernel
theorem dX0_nearestMarkOf_69 : decode cX0_nearestMarkOf 69 = .ok (.iload 7, 2) := by decide +kernel
theorem dX0_nearestMarkOf_71 : decode cX0_nearestMarkOf 71 = .ok (.iload 4, 2) := by decide +kernel
theorem dX0_nearestMarkOf_73 : decode cX0_nearestMarkOf 73 = .ok (.if_icmp .ge 10, 3) := by decide +kernel
theorem dX0_nearestMarkOf_76 : decode cX0_nearestMarkOf 76 = .ok (.iload 5, 2) := by decide +kernel
theorem dX0_nearestMarkOf_78 : decode cX0_nearestMarkOf 78 = .ok (.istore_n 3, 1) := by decide +kernel
theorem dX0_nearestMarkOf_79 : decode cX0_nearestMarkOf 79 = .ok (.iload 7, 2) := by decide +kernel
theorem dX0_nearestMarkOf_81 : decode cX0_nearestMarkOf 81 = .ok (.istore 4, 2) := by decide +kernel
theorem dX0_nearestMarkOf_83 : decode cX0_nearestMarkOf 83 = .ok (.iinc 5 1, 3) := by decide +kernel
theorem dX0_nearestMarkOf_86 : decode cX0_nearestMarkOf 86 = .ok (.goto (-71), 3) := by decide +kernel
theorem dX0_nearestMarkOf_89 : decode cX0_nearestMarkOf 89 = .ok (.iload_n 3, 1) := by decide +kernel
theorem dX0_nearestMarkOf_90 : decode cX0_nearestMarkOf 90 = .ok (.ireturn, 1) := by decide +kernel
set_option maxRecDepth 20000 in
theorem ggX0_turnTowards_X0_depthOf : GoodIn wsX0_turnTowards wsX0_depthOf := goodIn_r _ [5, 6, 7, 8, 4, 9, 10, 11, 12, 13, 14, 15, 20, 21, 22, 23] (by decide +kernel) (by decide +kernel)
set_option maxRecDepth 20000 in
theorem gX0_turnTowards_X0_depthOf : GoodIn wsX0_turnTowards (wsV RX0 44 RX0 yX0_depthOf wsX0_depthOf) := goodIn_app (goodIn_of _ (by decide +kernel)) ggX0_turnTowards_X0_depthOf
set_option maxRecDepth 20000 in
theorem ggX0_turnTowards_X0_parentOf : GoodIn wsX0_turnTowards wsX0_parentOf := goodIn_r _ [9, 10, 11, 12, 13, 4, 14, 15, 20, 21, 22, 23] (by decide +kernel) (by decide +kernel)
set_option maxRecDepth 20000 in
theorem gX0_turnTowards_X0_parentOf : GoodIn wsX0_turnTowards (wsV RX0 30 RX0 yX0_parentOf wsX0_parentOf) := goodIn_app (goodIn_of _ (by decide +kernel)) ggX0_turnTowards_X0_parentOf
set_option maxRecDepth 20000 in
theorem ggX0_turnTowards_X0_putParent : GoodIn wsX0_turnTowards wsX0_putParent := goodIn_r _ [19, 10, 11, 12, 13, 4, 14, 15, 20, 21, 22, 23] (by decide +kernel) (by decide +kernel)
set_option maxRecDepth 20000 in
theorem gX0_turnTowards_X0_putParent : GoodIn wsX0_turnTowards (wsV RX0 67 RX0 yX0_putParent wsX0_putParent) := goodIn_app (goodIn_of _ (by decide +kernel)) ggX0_turnTowards_X0_putParent
theorem dX0_turnTowards_0 : decode cX0_turnTowards 0 = .ok (.aload_n 0, 1) := by decide +kernel
theorem dX0_turnTowards_1 : decode cX0_turnTowards 1 = .ok (.iload_n 1, 1) := by decide +kernel
theorem dX0_turnTowards_2 : decode cX0_turnTowards 2 = .ok (.invokevirtual 44, 3) := by decide +kernel
theorem dX0_turnTowards_5 : decode cX0_turnTowards 5 = .ok (.istore_n 2, 1) := by decide +kernel
theorem dX0_turnTowards_6 : decode cX0_turnTowards 6 = .ok (.iconst (-1), 1) := by decide +kernel
theorem dX0_turnTowards_7 : decode cX0_turnTowards 7 = .ok (.istore_n 3, 1) := by decide +kernel
theorem dX0_turnTowards_8 : decode cX0_turnTowards 8 = .ok (.iload_n 1, 1) := by decide +kernel
theorem dX0_turnTowards_9 : decode cX0_turnTowards 9 = .ok (.istore 4, 2) := by decide +kernel
theorem dX0_turnTowards_11 : decode cX0_turnTowards 11 = .ok (.iconst 0, 1) := by decide +kernel
theorem dX0_turnTowards_12 : decode cX0_turnTowards 12 = .ok (.istore 5, 2) := by decide +kernel
theorem dX0_turnTowards_14 : decode cX0_turnTowards 14 = .ok (.iload 5, 2) := by decide +kernel
theorem dX0_turnTowards_16 : decode cX0_turnTowards 16 = .ok (.iload_n 2, 1) := by decide +kernel
theorem dX0_turnTowards_17 : decode cX0_turnTowards 17 = .ok (.if_icmp .gt 31, 3) := by decide +kernel
theorem dX0_turnTowards_20 : decode cX0_turnTowards 20 = .ok (.aload_n 0, 1) := by decide +kernel
theorem dX0_turnTowards_21 : decode cX0_turnTowards 21 = .ok (.iload 4, 2) := by decide +kernel
theorem dX0_turnTowards_23 : decode cX0_turnTowards 23 = .ok (.invokevirtual 30, 3) := by decide +kernel
theorem dX0_turnTowards_26 : decode cX0_turnTowards 26 = .ok (.istore 6, 2) := by decide +kernel
theorem dX0_turnTowards_28 : decode cX0_turnTowards 28 = .ok (.aload_n 0, 1) := by decide +kernel
theorem dX0_turnTowards_29 : decode cX0_turnTowards 29 = .ok (.iload 4, 2) := by decide +kernel
theorem dX0_turnTowards_31 : decode cX0_turnTowards 31 = .ok (.iload_n 3, 1) := by decide +kernel
theorem dX0_turnTowards_32 : decode cX0_turnTowards 32 = .ok (.invokevirtual 67, 3) := by decide +kernel
theorem dX0_turnTowards_35 : decode cX0_turnTowards 35 = .ok (.iload 4, 2) := by decide +kernel
theorem dX0_turnTowards_37 : decode cX0_turnTowards 37 = .ok (.istore_n 3, 1) := by decide +kernel
theorem dX0_turnTowards_38 : decode cX0_turnTowards 38 = .ok (.iload 6, 2) := by decide +kernel
theorem dX0_turnTowards_40 : decode cX0_turnTowards 40 = .ok (.istore 4, 2) := by decide +kernel
theorem dX0_turnTowards_42 : decode cX0_turnTowards 42 = .ok (.iinc 5 1, 3) := by decide +kernel
theorem dX0_turnTowards_45 : decode cX0_turnTowards 45 = .ok (.goto (-31), 3) := by decide +kernel
theorem dX0_turnTowards_48 : decode cX0_turnTowards 48 = .ok (.return_, 1) := by decide +kernel
theorem dX1_init_0 : decode cX1_init 0 = .ok (.aload_n 0, 1) := by decide +kernel
theorem dX1_init_1 : decode cX1_init 1 = .ok (.invokespecial 3, 3) := by decide +kernel
theorem dX1_init_4 : decode cX1_init 4 = .ok (.aload_n 0, 1) := by decide +kernel
theorem dX1_init_5 : decode cX1_init 5 = .ok (.bipush 64, 2) := by decide +kernel
theorem dX1_init_7 : decode cX1_init 7 = .ok (.newarray .int, 2) := by decide +kernel
theorem dX1_init_9 : decode cX1_init 9 = .ok (.putfield 9, 3) := by decide +kernel
theorem dX1_init_12 : decode cX1_init 12 = .ok (.aload_n 0, 1) := by decide +kernel
theorem dX1_init_13 : decode cX1_init 13 = .ok (.iconst 0, 1) := by decide +kernel
theorem dX1_init_14 : decode cX1_init 14 = .ok (.putfield 15, 3) := by decide +kernel
theorem dX1_init_17 : decode cX1_init 17 = .ok (.return_, 1) := by decide +kernel
theorem dX1_length_0 : decode cX1_length 0 = .ok (.aload_n 0, 1) := by decide +kernel
theorem dX1_length_1 : decode cX1_length 1 = .ok (.getfield 15, 3) := by decide +kernel
theorem dX1_length_4 : decode cX1_length 4 = .ok (.ireturn, 1) := by decide +kernel
theorem dX1_hasIndex_0 : decode cX1_hasIndex 0 = .ok (.iload_n 1, 1) := by decide +kernel
theorem dX1_hasIndex_1 : decode cX1_hasIndex 1 = .ok (.ifCond .lt 21, 3) := by decide +kernel
theorem dX1_hasIndex_4 : decode cX1_hasIndex 4 = .ok (.iload_n 1, 1) := by decide +kernel
theorem dX1_hasIndex_5 : decode cX1_hasIndex 5 = .ok (.aload_n 0, 1) := by decide +kernel
theorem dX1_hasIndex_6 : decode cX1_hasIndex 6 = .ok (.getfield 15, 3) := by decide +kernel
theorem dX1_hasIndex_9 : decode cX1_hasIndex 9 = .ok (.if_icmp .ge 13, 3) := by decide +kernel
theorem dX1_hasIndex_12 : decode cX1_hasIndex 12 = .ok (.iload_n 1, 1) := by decide +kernel
theorem dX1_hasIndex_13 : decode cX1_hasIndex 13 = .ok (.bipush 64, 2) := by decide +kernel
theorem dX1_hasIndex_15 : decode cX1_hasIndex 15 = .ok (.if_icmp .ge 7, 3) := by decide +kernel
theorem dX1_hasIndex_18 : decode cX1_hasIndex 18 = .ok (.iconst 1, 1) := by decide +kernel
theorem dX1_hasIndex_19 : decode cX1_hasIndex 19 = .ok (.goto 4, 3) := by decide +kernel
theorem dX1_hasIndex_22 : decode cX1_hasIndex 22 = .ok (.iconst 0, 1) := by decide +kernel
theorem dX1_hasIndex_23 : decode cX1_hasIndex 23 = .ok (.ireturn, 1) := by decide +kernel
set_option maxRecDepth 20000 in
theorem ggX1_vertexAt_X1_hasIndex : GoodIn wsX1_vertexAt wsX1_hasIndex := goodIn_r _ [6, 7, 8, 9] (by decide +kernel) (by decide +kernel)
set_option maxRecDepth 20000 in
theorem gX1_vertexAt_X1_hasIndex : GoodIn wsX1_vertexAt (wsV RX1 19 RX1 yX1_hasIndex wsX1_hasIndex) := goodIn_app (goodIn_of _ (by decide +kernel)) ggX1_vertexAt_X1_hasIndex
theorem dX1_vertexAt_0 : decode cX1_vertexAt 0 = .ok (.aload_n 0, 1) := by decide +kernel
theorem dX1_vertexAt_1 : decode cX1_vertexAt 1 = .ok (.iload_n 1, 1) := by decide +kernel
theorem dX1_vertexAt_2 : decode cX1_vertexAt 2 = .ok (.invokevirtual 19, 3) := by decide +kernel
theorem dX1_vertexAt_5 : decode cX1_vertexAt 5 = .ok (.ifCond .eq 12, 3) := by decide +kernel
theorem dX1_vertexAt_8 : decode cX1_vertexAt 8 = .ok (.aload_n 0, 1) := by decide +kernel
theorem dX1_vertexAt_9 : decode cX1_vertexAt 9 = .ok (.getfield 9, 3) := by decide +kernel
theorem dX1_vertexAt_12 : decode cX1_vertexAt 12 = .ok (.iload_n 1, 1) := by decide +kernel
theorem dX1_vertexAt_13 : decode cX1_vertexAt 13 = .ok (.iaload, 1) := by decide +kernel
theorem dX1_vertexAt_14 : decode cX1_vertexAt 14 = .ok (.goto 4, 3) := by decide +kernel
theorem dX1_vertexAt_17 : decode cX1_vertexAt 17 = .ok (.iconst (-1), 1) := by decide +kernel
theorem dX1_vertexAt_18 : decode cX1_vertexAt 18 = .ok (.ireturn, 1) := by decide +kernel
set_option maxRecDepth 20000 in
theorem ggX1_trace_X0_meetingPoint : GoodIn wsX1_trace wsX0_meetingPoint := goodIn_r _ [6, 7, 8, 9, 5, 10, 11, 12, 13, 14, 15, 16, 17, 18, 19, 20, 21, 22, 23, 24, 50, 51, 52, 53] (by decide +kernel) (by decide +kernel)
set_option maxRecDepth 20000 in
theorem gX1_trace_X0_meetingPoint : GoodIn wsX1_trace (wsV RX1 23 RX0 yX0_meetingPoint wsX0_meetingPoint) := goodIn_app (goodIn_of _ (by decide +kernel)) ggX1_trace_X0_meetingPoint
set_option maxRecDepth 20000 in
theorem ggX1_trace_X1_appendClimb : GoodIn wsX1_trace wsX1_appendClimb := goodIn_r _ [29, 30, 31, 32, 28, 33, 1, 34, 35, 12, 13, 5, 14, 15, 16, 17, 18, 19, 20, 48, 49, 50, 51, 52, 53] (by decide +kernel) (by decide +kernel)
set_option maxRecDepth 20000 in
theorem gX1_trace_X1_appendClimb : GoodIn wsX1_trace (wsV RX1 29 RX1 yX1_appendClimb wsX1_appendClimb) := goodIn_app (goodIn_of _ (by decide +kernel)) ggX1_trace_X1_appendClimb
set_option maxRecDepth 20000 in
theorem ggX1_trace_X1_append : GoodIn wsX1_trace wsX1_append := goodIn_r _ [33, 1, 34, 48, 49] (by decide +kernel) (by decide +kernel)
set_option maxRecDepth 20000 in
theorem gX1_trace_X1_append : GoodIn wsX1_trace (wsV RX1 33 RX1 yX1_append wsX1_append) := goodIn_app (goodIn_of _ (by decide +kernel)) ggX1_trace_X1_append
set_option maxRecDepth 20000 in
theorem ggX1_trace_X1_reverseFrom : GoodIn wsX1_trace wsX1_reverseFrom := goodIn_r _ [39, 1, 40, 41, 42, 28, 43, 34, 44, 45, 46, 47, 48, 49] (by decide +kernel) (by decide +kernel)
set_option maxRecDepth 20000 in
theorem gX1_trace_X1_reverseFrom : GoodIn wsX1_trace (wsV RX1 37 RX1 yX1_reverseFrom wsX1_reverseFrom) := goodIn_app (goodIn_of _ (by decide +kernel)) ggX1_trace_X1_reverseFrom
theorem dX1_trace_0 : decode cX1_trace 0 = .ok (.aload_n 1, 1) := by decide +kernel
theorem dX1_trace_1 : decode cX1_trace 1 = .ok (.iload_n 2, 1) := by decide +kernel
theorem dX1_trace_2 : decode cX1_trace 2 = .ok (.iload_n 3, 1) := by decide +kernel
theorem dX1_trace_3 : decode cX1_trace 3 = .ok (.invokevirtual 23, 3) := by decide +kernel
theorem dX1_trace_6 : decode cX1_trace 6 = .ok (.istore 4, 2) := by decide +kernel
theorem dX1_trace_8 : decode cX1_trace 8 = .ok (.aload_n 0, 1) := by decide +kernel
theorem dX1_trace_9 : decode cX1_trace 9 = .ok (.iconst 0, 1) := by decide +kernel
theorem dX1_trace_10 : decode cX1_trace 10 = .ok (.putfield 15, 3) := by decide +kernel
theorem dX1_trace_13 : decode cX1_trace 13 = .ok (.aload_n 0, 1) := by decide +kernel
theorem dX1_trace_14 : decode cX1_trace 14 = .ok (.aload_n 1, 1) := by decide +kernel
theorem dX1_trace_15 : decode cX1_trace 15 = .ok (.iload_n 2, 1) := by decide +kernel
theorem dX1_trace_16 : decode cX1_trace 16 = .ok (.iload 4, 2) := by decide +kernel
theorem dX1_trace_18 : decode cX1_trace 18 = .ok (.invokevirtual 29, 3) := by decide +kernel
theorem dX1_trace_21 : decode cX1_trace 21 = .ok (.aload_n 0, 1) := by decide +kernel
theorem dX1_trace_22 : decode cX1_trace 22 = .ok (.iload 4, 2) := by decide +kernel
theorem dX1_trace_24 : decode cX1_trace 24 = .ok (.invokevirtual 33, 3) := by decide +kernel
theorem dX1_trace_27 : decode cX1_trace 27 = .ok (.aload_n 0, 1) := by decide +kernel
theorem dX1_trace_28 : decode cX1_trace 28 = .ok (.getfield 15, 3) := by decide +kernel
theorem dX1_trace_31 : decode cX1_trace 31 = .ok (.istore 5, 2) := by decide +kernel
theorem dX1_trace_33 : decode cX1_trace 33 = .ok (.aload_n 0, 1) := by decide +kernel
theorem dX1_trace_34 : decode cX1_trace 34 = .ok (.aload_n 1, 1) := by decide +kernel
theorem dX1_trace_35 : decode cX1_trace 35 = .ok (.iload_n 3, 1) := by decide +kernel
theorem dX1_trace_36 : decode cX1_trace 36 = .ok (.iload 4, 2) := by decide +kernel
theorem dX1_trace_38 : decode cX1_trace 38 = .ok (.invokevirtual 29, 3) := by decide +kernel
theorem dX1_trace_41 : decode cX1_trace 41 = .ok (.aload_n 0, 1) := by decide +kernel
theorem dX1_trace_42 : decode cX1_trace 42 = .ok (.iload 5, 2) := by decide +kernel
theorem dX1_trace_44 : decode cX1_trace 44 = .ok (.invokevirtual 37, 3) := by decide +kernel
theorem dX1_trace_47 : decode cX1_trace 47 = .ok (.return_, 1) := by decide +kernel
set_option maxRecDepth 20000 in
theorem ggX1_appendClimb_X1_append : GoodIn wsX1_appendClimb wsX1_append := goodIn_r _ [5, 6, 7, 19, 20] (by decide +kernel) (by decide +kernel)
set_option maxRecDepth 20000 in
theorem gX1_appendClimb_X1_append : GoodIn wsX1_appendClimb (wsV RX1 33 RX1 yX1_append wsX1_append) := goodIn_app (goodIn_of _ (by decide +kernel)) ggX1_appendClimb_X1_append
set_option maxRecDepth 20000 in
theorem ggX1_appendClimb_X0_parentOf : GoodIn wsX1_appendClimb wsX0_parentOf := goodIn_r _ [12, 13, 14, 15, 16, 11, 17, 18, 21, 22, 23, 24] (by decide +kernel) (by decide +kernel)
set_option maxRecDepth 20000 in
theorem gX1_appendClimb_X0_parentOf : GoodIn wsX1_appendClimb (wsV RX1 40 RX0 yX0_parentOf wsX0_parentOf) := goodIn_app (goodIn_of _ (by decide +kernel)) ggX1_appendClimb_X0_parentOf
theorem dX1_appendClimb_0 : decode cX1_appendClimb 0 = .ok (.iload_n 2, 1) := by decide +kernel
theorem dX1_appendClimb_1 : decode cX1_appendClimb 1 = .ok (.istore 4, 2) := by decide +kernel
theorem dX1_appendClimb_3 : decode cX1_appendClimb 3 = .ok (.iconst 0, 1) := by decide +kernel
theorem dX1_appendClimb_4 : decode cX1_appendClimb 4 = .ok (.istore 5, 2) := by decide +kernel
theorem dX1_appendClimb_6 : decode cX1_appendClimb 6 = .ok (.iload 5, 2) := by decide +kernel
theorem dX1_appendClimb_8 : decode cX1_appendClimb 8 = .ok (.bipush 64, 2) := by decide +kernel
theorem dX1_appendClimb_10 : decode cX1_appendClimb 10 = .ok (.if_icmp .ge 29, 3) := by decide +kernel
theorem dX1_appendClimb_13 : decode cX1_appendClimb 13 = .ok (.iload 4, 2) := by decide +kernel
theorem dX1_appendClimb_15 : decode cX1_appendClimb 15 = .ok (.iload_n 3, 1) := by decide +kernel
theorem dX1_appendClimb_16 : decode cX1_appendClimb 16 = .ok (.if_icmp .eq 23, 3) := by decide +kernel
theorem dX1_appendClimb_19 : decode cX1_appendClimb 19 = .ok (.aload_n 0, 1) := by decide +kernel
theorem dX1_appendClimb_20 : decode cX1_appendClimb 20 = .ok (.iload 4, 2) := by decide +kernel
theorem dX1_appendClimb_22 : decode cX1_appendClimb 22 = .ok (.invokevirtual 33, 3) := by decide +kernel
theorem dX1_appendClimb_25 : decode cX1_appendClimb 25 = .ok (.aload_n 1, 1) := by decide +kernel
theorem dX1_appendClimb_26 : decode cX1_appendClimb 26 = .ok (.iload 4, 2) := by decide +kernel
theorem dX1_appendClimb_28 : decode cX1_appendClimb 28 = .ok (.invokevirtual 40, 3) := by decide +kernel
theorem dX1_appendClimb_31 : decode cX1_appendClimb 31 = .ok (.istore 4, 2) := by decide +kernel
theorem dX1_appendClimb_33 : decode cX1_appendClimb 33 = .ok (.iinc 5 1, 3) := by decide +kernel
theorem dX1_appendClimb_36 : decode cX1_appendClimb 36 = .ok (.goto (-30), 3) := by decide +kernel
theorem dX1_appendClimb_39 : decode cX1_appendClimb 39 = .ok (.return_, 1) := by decide +kernel
theorem dX1_append_0 : decode cX1_append 0 = .ok (.aload_n 0, 1) := by decide +kernel
theorem dX1_append_1 : decode cX1_append 1 = .ok (.getfield 15, 3) := by decide +kernel
theorem dX1_append_4 : decode cX1_append 4 = .ok (.ifCond .lt 32, 3) := by decide +kernel
theorem dX1_append_7 : decode cX1_append 7 = .ok (.aload_n 0, 1) := by decide +kernel
theorem dX1_append_8 : decode cX1_append 8 = .ok (.getfield 15, 3) := by decide +kernel
theorem dX1_append_11 : decode cX1_append 11 = .ok (.bipush 64, 2) := by decide +kernel
theorem dX1_append_13 : decode cX1_append 13 = .ok (.if_icmp .ge 23, 3) := by decide +kernel
theorem dX1_append_16 : decode cX1_append 16 = .ok (.aload_n 0, 1) := by decide +kernel
theorem dX1_append_17 : decode cX1_append 17 = .ok (.getfield 9, 3) := by decide +kernel
theorem dX1_append_20 : decode cX1_append 20 = .ok (.aload_n 0, 1) := by decide +kernel
theorem dX1_append_21 : decode cX1_append 21 = .ok (.getfield 15, 3) := by decide +kernel
theorem dX1_append_24 : decode cX1_append 24 = .ok (.iload_n 1, 1) := by decide +kernel
theorem dX1_append_25 : decode cX1_append 25 = .ok (.iastore, 1) := by decide +kernel
theorem dX1_append_26 : decode cX1_append 26 = .ok (.aload_n 0, 1) := by decide +kernel
theorem dX1_append_27 : decode cX1_append 27 = .ok (.dup, 1) := by decide +kernel
theorem dX1_append_28 : decode cX1_append 28 = .ok (.getfield 15, 3) := by decide +kernel
theorem dX1_append_31 : decode cX1_append 31 = .ok (.iconst 1, 1) := by decide +kernel
theorem dX1_append_32 : decode cX1_append 32 = .ok (.iadd, 1) := by decide +kernel
theorem dX1_append_33 : decode cX1_append 33 = .ok (.putfield 15, 3) := by decide +kernel
theorem dX1_append_36 : decode cX1_append 36 = .ok (.return_, 1) := by decide +kernel
set_option maxRecDepth 20000 in
theorem ggX1_reverseFrom_X1_swap : GoodIn wsX1_reverseFrom wsX1_swap := goodIn_r _ [6, 7, 8, 9, 10, 5, 11, 1, 12, 13] (by decide +kernel) (by decide +kernel)
set_option maxRecDepth 20000 in
theorem gX1_reverseFrom_X1_swap : GoodIn wsX1_reverseFrom (wsV RX1 44 RX1 yX1_swap wsX1_swap) := goodIn_app (goodIn_of _ (by decide +kernel)) ggX1_reverseFrom_X1_swap
theorem dX1_reverseFrom_0 : decode cX1_reverseFrom 0 = .ok (.iload_n 1, 1) := by decide +kernel
theorem dX1_reverseFrom_1 : decode cX1_reverseFrom 1 = .ok (.istore_n 2, 1) := by decide +kernel
theorem dX1_reverseFrom_2 : decode cX1_reverseFrom 2 = .ok (.aload_n 0, 1) := by decide +kernel
theorem dX1_reverseFrom_3 : decode cX1_reverseFrom 3 = .ok (.getfield 15, 3) := by decide +kernel
theorem dX1_reverseFrom_6 : decode cX1_reverseFrom 6 = .ok (.iconst 1, 1) := by decide +kernel
theorem dX1_reverseFrom_7 : decode cX1_reverseFrom 7 = .ok (.isub, 1) := by decide +kernel
theorem dX1_reverseFrom_8 : decode cX1_reverseFrom 8 = .ok (.istore_n 3, 1) := by decide +kernel
theorem dX1_reverseFrom_9 : decode cX1_reverseFrom 9 = .ok (.iload_n 3, 1) := by decide +kernel
theorem dX1_reverseFrom_10 : decode cX1_reverseFrom 10 = .ok (.iload_n 2, 1) := by decide +kernel
theorem dX1_reverseFrom_11 : decode cX1_reverseFrom 11 = .ok (.if_icmp .le 18, 3) := by decide +kernel
theorem dX1_reverseFrom_14 : decode cX1_reverseFrom 14 = .ok (.aload_n 0, 1) := by decide +kernel
theorem dX1_reverseFrom_15 : decode cX1_reverseFrom 15 = .ok (.iload_n 2, 1) := by decide +kernel
theorem dX1_reverseFrom_16 : decode cX1_reverseFrom 16 = .ok (.iload_n 3, 1) := by decide +kernel
theorem dX1_reverseFrom_17 : decode cX1_reverseFrom 17 = .ok (.invokevirtual 44, 3) := by decide +kernel
theorem dX1_reverseFrom_20 : decode cX1_reverseFrom 20 = .ok (.iinc 2 1, 3) := by decide +kernel
theorem dX1_reverseFrom_23 : decode cX1_reverseFrom 23 = .ok (.iinc 3 (-1), 3) := by decide +kernel
theorem dX1_reverseFrom_26 : decode cX1_reverseFrom 26 = .ok (.goto (-17), 3) := by decide +kernel
theorem dX1_reverseFrom_29 : decode cX1_reverseFrom 29 = .ok (.return_, 1) := by decide +kernel
set_option maxRecDepth 20000 in
theorem ggX1_swap_X1_hasIndex : GoodIn wsX1_swap wsX1_hasIndex := goodIn_r _ [6, 7, 8, 9] (by decide +kernel) (by decide +kernel)
set_option maxRecDepth 20000 in
theorem gX1_swap_X1_hasIndex : GoodIn wsX1_swap (wsV RX1 19 RX1 yX1_hasIndex wsX1_hasIndex) := goodIn_app (goodIn_of _ (by decide +kernel)) ggX1_swap_X1_hasIndex
theorem dX1_swap_0 : decode cX1_swap 0 = .ok (.aload_n 0, 1) := by decide +kernel
theorem dX1_swap_1 : decode cX1_swap 1 = .ok (.iload_n 1, 1) := by decide +kernel
theorem dX1_swap_2 : decode cX1_swap 2 = .ok (.invokevirtual 19, 3) := by decide +kernel
theorem dX1_swap_5 : decode cX1_swap 5 = .ok (.ifCond .eq 37, 3) := by decide +kernel
theorem dX1_swap_8 : decode cX1_swap 8 = .ok (.aload_n 0, 1) := by decide +kernel
theorem dX1_swap_9 : decode cX1_swap 9 = .ok (.iload_n 2, 1) := by decide +kernel
theorem dX1_swap_10 : decode cX1_swap 10 = .ok (.invokevirtual 19, 3) := by decide +kernel
theorem dX1_swap_13 : decode cX1_swap 13 = .ok (.ifCond .eq 29, 3) := by decide +kernel
theorem dX1_swap_16 : decode cX1_swap 16 = .ok (.aload_n 0, 1) := by decide +kernel
theorem dX1_swap_17 : decode cX1_swap 17 = .ok (.getfield 9, 3) := by decide +kernel
theorem dX1_swap_20 : decode cX1_swap 20 = .ok (.iload_n 1, 1) := by decide +kernel
theorem dX1_swap_21 : decode cX1_swap 21 = .ok (.iaload, 1) := by decide +kernel
theorem dX1_swap_22 : decode cX1_swap 22 = .ok (.istore_n 3, 1) := by decide +kernel
theorem dX1_swap_23 : decode cX1_swap 23 = .ok (.aload_n 0, 1) := by decide +kernel
theorem dX1_swap_24 : decode cX1_swap 24 = .ok (.getfield 9, 3) := by decide +kernel
theorem dX1_swap_27 : decode cX1_swap 27 = .ok (.iload_n 1, 1) := by decide +kernel
theorem dX1_swap_28 : decode cX1_swap 28 = .ok (.aload_n 0, 1) := by decide +kernel
theorem dX1_swap_29 : decode cX1_swap 29 = .ok (.getfield 9, 3) := by decide +kernel
theorem dX1_swap_32 : decode cX1_swap 32 = .ok (.iload_n 2, 1) := by decide +kernel
theorem dX1_swap_33 : decode cX1_swap 33 = .ok (.iaload, 1) := by decide +kernel
theorem dX1_swap_34 : decode cX1_swap 34 = .ok (.iastore, 1) := by decide +kernel
theorem dX1_swap_35 : decode cX1_swap 35 = .ok (.aload_n 0, 1) := by decide +kernel
theorem dX1_swap_36 : decode cX1_swap 36 = .ok (.getfield 9, 3) := by decide +kernel
theorem dX1_swap_39 : decode cX1_swap 39 = .ok (.iload_n 2, 1) := by decide +kernel
theorem dX1_swap_40 : decode cX1_swap 40 = .ok (.iload_n 3, 1) := by decide +kernel
theorem dX1_swap_41 : decode cX1_swap 41 = .ok (.iastore, 1) := by decide +kernel
theorem dX1_swap_42 : decode cX1_swap 42 = .ok (.return_, 1) := by decide +kernel
set_option maxRecDepth 20000 in
theorem ggX2_init_X0_init : GoodIn wsX2_init wsX0_init := goodIn_r _ [16, 17, 2, 3, 18, 19, 20, 21, 22, 23, 34, 35, 36, 37] (by decide +kernel) (by decide +kernel)
set_option maxRecDepth 20000 in
theorem gX2_init_X0_init : GoodIn wsX2_init (wsX0_init) := ggX2_init_X0_init
set_option maxRecDepth 20000 in
theorem ggX2_init_X1_init : GoodIn wsX2_init wsX1_init := goodIn_r _ [26, 27, 2, 3, 19, 28, 29, 42, 43] (by decide +kernel) (by decide +kernel)
set_option maxRecDepth 20000 in
theorem gX2_init_X1_init : GoodIn wsX2_init (wsX1_init) := ggX2_init_X1_init
set_option maxRecDepth 20000 in
theorem ggX2_init_X0_startAnew : GoodIn wsX2_init wsX0_startAnew := goodIn_r _ [33, 18, 20, 21, 23, 34, 35, 36, 37] (by decide +kernel) (by decide +kernel)
set_option maxRecDepth 20000 in
theorem gX2_init_X0_startAnew : GoodIn wsX2_init (wsV RX2 29 RX0 yX0_startAnew wsX0_startAnew) := goodIn_app (goodIn_of _ (by decide +kernel)) ggX2_init_X0_startAnew
end
section
theorem dX2_init_0 : decode cX2_init 0 = .ok (.aload_n 0, 1) := by decide +kernel
theorem dX2_init_1 : decode cX2_init 1 = .ok (.invokespecial 1, 3) := by decide +kernel
theorem dX2_init_4 : decode cX2_init 4 = .ok (.aload_n 0, 1) := by decide +kernel
theorem dX2_init_5 : decode cX2_init 5 = .ok (.new 7, 3) := by decide +kernel
theorem dX2_init_8 : decode cX2_init 8 = .ok (.dup, 1) := by decide +kernel
theorem dX2_init_9 : decode cX2_init 9 = .ok (.invokespecial 9, 3) := by decide +kernel
theorem dX2_init_12 : decode cX2_init 12 = .ok (.putfield 10, 3) := by decide +kernel
theorem dX2_init_15 : decode cX2_init 15 = .ok (.aload_n 0, 1) := by decide +kernel
theorem dX2_init_16 : decode cX2_init 16 = .ok (.new 7, 3) := by decide +kernel
theorem dX2_init_19 : decode cX2_init 19 = .ok (.dup, 1) := by decide +kernel
theorem dX2_init_20 : decode cX2_init 20 = .ok (.invokespecial 9, 3) := by decide +kernel
theorem dX2_init_23 : decode cX2_init 23 = .ok (.putfield 16, 3) := by decide +kernel
theorem dX2_init_26 : decode cX2_init 26 = .ok (.aload_n 0, 1) := by decide +kernel
theorem dX2_init_27 : decode cX2_init 27 = .ok (.new 7, 3) := by decide +kernel
theorem dX2_init_30 : decode cX2_init 30 = .ok (.dup, 1) := by decide +kernel
theorem dX2_init_31 : decode cX2_init 31 = .ok (.invokespecial 9, 3) := by decide +kernel
theorem dX2_init_34 : decode cX2_init 34 = .ok (.putfield 19, 3) := by decide +kernel
theorem dX2_init_37 : decode cX2_init 37 = .ok (.aload_n 0, 1) := by decide +kernel
theorem dX2_init_38 : decode cX2_init 38 = .ok (.new 22, 3) := by decide +kernel
theorem dX2_init_41 : decode cX2_init 41 = .ok (.dup, 1) := by decide +kernel
theorem dX2_init_42 : decode cX2_init 42 = .ok (.invokespecial 24, 3) := by decide +kernel
theorem dX2_init_45 : decode cX2_init 45 = .ok (.putfield 25, 3) := by decide +kernel
theorem dX2_init_48 : decode cX2_init 48 = .ok (.aload_n 0, 1) := by decide +kernel
theorem dX2_init_49 : decode cX2_init 49 = .ok (.getfield 10, 3) := by decide +kernel
theorem dX2_init_52 : decode cX2_init 52 = .ok (.bipush 16, 2) := by decide +kernel
theorem dX2_init_54 : decode cX2_init 54 = .ok (.invokevirtual 29, 3) := by decide +kernel
theorem dX2_init_57 : decode cX2_init 57 = .ok (.return_, 1) := by decide +kernel
set_option maxRecDepth 20000 in
theorem ggX2_reset_X0_size : GoodIn wsX2_reset wsX0_size := goodIn_r _ [7, 8, 20, 21, 22, 23] (by decide +kernel) (by decide +kernel)
set_option maxRecDepth 20000 in
theorem gX2_reset_X0_size : GoodIn wsX2_reset (wsV RX2 34 RX0 yX0_size wsX0_size) := goodIn_app (goodIn_of _ (by decide +kernel)) ggX2_reset_X0_size
set_option maxRecDepth 20000 in
theorem ggX2_reset_X0_startAnew : GoodIn wsX2_reset wsX0_startAnew := goodIn_r _ [12, 8, 13, 14, 15, 20, 21, 22, 23] (by decide +kernel) (by decide +kernel)
set_option maxRecDepth 20000 in
theorem gX2_reset_X0_startAnew : GoodIn wsX2_reset (wsV RX2 29 RX0 yX0_startAnew wsX0_startAnew) := goodIn_app (goodIn_of _ (by decide +kernel)) ggX2_reset_X0_startAnew
theorem dX2_reset_0 : decode cX2_reset 0 = .ok (.iload_n 1, 1) := by decide +kernel
theorem dX2_reset_1 : decode cX2_reset 1 = .ok (.iconst 1, 1) := by decide +kernel
theorem dX2_reset_2 : decode cX2_reset 2 = .ok (.if_icmp .lt 9, 3) := by decide +kernel
theorem dX2_reset_5 : decode cX2_reset 5 = .ok (.iload_n 1, 1) := by decide +kernel
theorem dX2_reset_6 : decode cX2_reset 6 = .ok (.bipush 64, 2) := by decide +kernel
theorem dX2_reset_8 : decode cX2_reset 8 = .ok (.if_icmp .le 6, 3) := by decide +kernel
theorem dX2_reset_11 : decode cX2_reset 11 = .ok (.ldc 33, 2) := by decide +kernel
theorem dX2_reset_13 : decode cX2_reset 13 = .ok (.ireturn, 1) := by decide +kernel
theorem dX2_reset_14 : decode cX2_reset 14 = .ok (.aload_n 0, 1) := by decide +kernel
theorem dX2_reset_15 : decode cX2_reset 15 = .ok (.getfield 10, 3) := by decide +kernel
theorem dX2_reset_18 : decode cX2_reset 18 = .ok (.invokevirtual 34, 3) := by decide +kernel
theorem dX2_reset_21 : decode cX2_reset 21 = .ok (.istore_n 2, 1) := by decide +kernel
theorem dX2_reset_22 : decode cX2_reset 22 = .ok (.aload_n 0, 1) := by decide +kernel
theorem dX2_reset_23 : decode cX2_reset 23 = .ok (.getfield 10, 3) := by decide +kernel
theorem dX2_reset_26 : decode cX2_reset 26 = .ok (.iload_n 1, 1) := by decide +kernel
theorem dX2_reset_27 : decode cX2_reset 27 = .ok (.invokevirtual 29, 3) := by decide +kernel
theorem dX2_reset_30 : decode cX2_reset 30 = .ok (.iload_n 2, 1) := by decide +kernel
theorem dX2_reset_31 : decode cX2_reset 31 = .ok (.ireturn, 1) := by decide +kernel
set_option maxRecDepth 20000 in
theorem ggX2_link_X0_has : GoodIn wsX2_link wsX0_has := goodIn_r _ [9, 10, 49, 50, 51, 52] (by decide +kernel) (by decide +kernel)
set_option maxRecDepth 20000 in
theorem gX2_link_X0_has : GoodIn wsX2_link (wsV RX2 38 RX0 yX0_has wsX0_has) := goodIn_app (goodIn_of _ (by decide +kernel)) ggX2_link_X0_has
set_option maxRecDepth 20000 in
theorem ggX2_link_X0_isRoot : GoodIn wsX2_link wsX0_isRoot := goodIn_r _ [14, 15, 16, 17, 8, 18, 19, 20, 6, 7, 9, 10, 49, 50, 51, 52] (by decide +kernel) (by decide +kernel)
set_option maxRecDepth 20000 in
theorem gX2_link_X0_isRoot : GoodIn wsX2_link (wsV RX2 43 RX0 yX0_isRoot wsX0_isRoot) := goodIn_app (goodIn_of _ (by decide +kernel)) ggX2_link_X0_isRoot
set_option maxRecDepth 20000 in
theorem ggX2_link_X0_rootOf : GoodIn wsX2_link wsX0_rootOf := goodIn_r _ [24, 25, 26, 27, 8, 28, 15, 16, 17, 18, 19, 20, 6, 7, 9, 10, 29, 30, 31, 32, 49, 50, 51, 52] (by decide +kernel) (by decide +kernel)
set_option maxRecDepth 20000 in
theorem gX2_link_X0_rootOf : GoodIn wsX2_link (wsV RX2 47 RX0 yX0_rootOf wsX0_rootOf) := goodIn_app (goodIn_of _ (by decide +kernel)) ggX2_link_X0_rootOf
set_option maxRecDepth 20000 in
theorem ggX2_link_X0_putParent : GoodIn wsX2_link wsX0_putParent := goodIn_r _ [36, 19, 20, 6, 7, 8, 9, 10, 49, 50, 51, 52] (by decide +kernel) (by decide +kernel)
set_option maxRecDepth 20000 in
theorem gX2_link_X0_putParent : GoodIn wsX2_link (wsV RX2 52 RX0 yX0_putParent wsX0_putParent) := goodIn_app (goodIn_of _ (by decide +kernel)) ggX2_link_X0_putParent
set_option maxRecDepth 20000 in
theorem ggX2_link_X0_countBelow : GoodIn wsX2_link wsX0_countBelow := goodIn_r _ [40, 10, 41, 42, 43, 8, 44, 25, 26, 27, 28, 15, 16, 17, 18, 19, 20, 6, 7, 9, 29, 30, 31, 32, 49, 50, 51, 52] (by decide +kernel) (by decide +kernel)
set_option maxRecDepth 20000 in
theorem gX2_link_X0_countBelow : GoodIn wsX2_link (wsV RX2 56 RX0 yX0_countBelow wsX0_countBelow) := goodIn_app (goodIn_of _ (by decide +kernel)) ggX2_link_X0_countBelow
theorem dX2_link_0 : decode cX2_link 0 = .ok (.aload_n 0, 1) := by decide +kernel
theorem dX2_link_1 : decode cX2_link 1 = .ok (.getfield 10, 3) := by decide +kernel
theorem dX2_link_4 : decode cX2_link 4 = .ok (.iload_n 1, 1) := by decide +kernel
theorem dX2_link_5 : decode cX2_link 5 = .ok (.invokevirtual 38, 3) := by decide +kernel
theorem dX2_link_8 : decode cX2_link 8 = .ok (.ifCond .eq 14, 3) := by decide +kernel
theorem dX2_link_11 : decode cX2_link 11 = .ok (.aload_n 0, 1) := by decide +kernel
theorem dX2_link_12 : decode cX2_link 12 = .ok (.getfield 10, 3) := by decide +kernel
theorem dX2_link_15 : decode cX2_link 15 = .ok (.iload_n 2, 1) := by decide +kernel
theorem dX2_link_16 : decode cX2_link 16 = .ok (.invokevirtual 38, 3) := by decide +kernel
theorem dX2_link_19 : decode cX2_link 19 = .ok (.ifCond .ne 6, 3) := by decide +kernel
theorem dX2_link_22 : decode cX2_link 22 = .ok (.ldc 42, 2) := by decide +kernel
theorem dX2_link_24 : decode cX2_link 24 = .ok (.ireturn, 1) := by decide +kernel
theorem dX2_link_25 : decode cX2_link 25 = .ok (.aload_n 0, 1) := by decide +kernel
theorem dX2_link_26 : decode cX2_link 26 = .ok (.getfield 10, 3) := by decide +kernel
theorem dX2_link_29 : decode cX2_link 29 = .ok (.iload_n 1, 1) := by decide +kernel
theorem dX2_link_30 : decode cX2_link 30 = .ok (.invokevirtual 43, 3) := by decide +kernel
theorem dX2_link_33 : decode cX2_link 33 = .ok (.ifCond .ne 6, 3) := by decide +kernel
theorem dX2_link_36 : decode cX2_link 36 = .ok (.ldc 46, 2) := by decide +kernel
theorem dX2_link_38 : decode cX2_link 38 = .ok (.ireturn, 1) := by decide +kernel
theorem dX2_link_39 : decode cX2_link 39 = .ok (.aload_n 0, 1) := by decide +kernel
theorem dX2_link_40 : decode cX2_link 40 = .ok (.getfield 10, 3) := by decide +kernel
theorem dX2_link_43 : decode cX2_link 43 = .ok (.iload_n 2, 1) := by decide +kernel
theorem dX2_link_44 : decode cX2_link 44 = .ok (.invokevirtual 47, 3) := by decide +kernel
theorem dX2_link_47 : decode cX2_link 47 = .ok (.iload_n 1, 1) := by decide +kernel
theorem dX2_link_48 : decode cX2_link 48 = .ok (.if_icmp .ne 6, 3) := by decide +kernel
theorem dX2_link_51 : decode cX2_link 51 = .ok (.ldc 51, 2) := by decide +kernel
theorem dX2_link_53 : decode cX2_link 53 = .ok (.ireturn, 1) := by decide +kernel
theorem dX2_link_54 : decode cX2_link 54 = .ok (.aload_n 0, 1) := by decide +kernel
theorem dX2_link_55 : decode cX2_link 55 = .ok (.getfield 10, 3) := by decide +kernel
theorem dX2_link_58 : decode cX2_link 58 = .ok (.iload_n 1, 1) := by decide +kernel
theorem dX2_link_59 : decode cX2_link 59 = .ok (.iload_n 2, 1) := by decide +kernel
theorem dX2_link_60 : decode cX2_link 60 = .ok (.invokevirtual 52, 3) := by decide +kernel
theorem dX2_link_63 : decode cX2_link 63 = .ok (.aload_n 0, 1) := by decide +kernel
theorem dX2_link_64 : decode cX2_link 64 = .ok (.getfield 10, 3) := by decide +kernel
theorem dX2_link_67 : decode cX2_link 67 = .ok (.aload_n 0, 1) := by decide +kernel
theorem dX2_link_68 : decode cX2_link 68 = .ok (.getfield 10, 3) := by decide +kernel
theorem dX2_link_71 : decode cX2_link 71 = .ok (.iload_n 2, 1) := by decide +kernel
theorem dX2_link_72 : decode cX2_link 72 = .ok (.invokevirtual 47, 3) := by decide +kernel
theorem dX2_link_75 : decode cX2_link 75 = .ok (.invokevirtual 56, 3) := by decide +kernel
theorem dX2_link_78 : decode cX2_link 78 = .ok (.ireturn, 1) := by decide +kernel
set_option maxRecDepth 20000 in
theorem ggX2_cut_X0_has : GoodIn wsX2_cut wsX0_has := goodIn_r _ [8, 9, 29, 30, 31, 32] (by decide +kernel) (by decide +kernel)
set_option maxRecDepth 20000 in
theorem gX2_cut_X0_has : GoodIn wsX2_cut (wsV RX2 38 RX0 yX0_has wsX0_has) := goodIn_app (goodIn_of _ (by decide +kernel)) ggX2_cut_X0_has
set_option maxRecDepth 20000 in
theorem ggX2_cut_X0_isRoot : GoodIn wsX2_cut wsX0_isRoot := goodIn_r _ [13, 14, 15, 16, 7, 17, 18, 19, 5, 6, 8, 9, 29, 30, 31, 32] (by decide +kernel) (by decide +kernel)
set_option maxRecDepth 20000 in
theorem gX2_cut_X0_isRoot : GoodIn wsX2_cut (wsV RX2 43 RX0 yX0_isRoot wsX0_isRoot) := goodIn_app (goodIn_of _ (by decide +kernel)) ggX2_cut_X0_isRoot
set_option maxRecDepth 20000 in
theorem ggX2_cut_X0_parentOf : GoodIn wsX2_cut wsX0_parentOf := goodIn_r _ [17, 18, 19, 5, 6, 7, 8, 9, 29, 30, 31, 32] (by decide +kernel) (by decide +kernel)
set_option maxRecDepth 20000 in
theorem gX2_cut_X0_parentOf : GoodIn wsX2_cut (wsV RX2 60 RX0 yX0_parentOf wsX0_parentOf) := goodIn_app (goodIn_of _ (by decide +kernel)) ggX2_cut_X0_parentOf
set_option maxRecDepth 20000 in
theorem ggX2_cut_X0_putParent : GoodIn wsX2_cut wsX0_putParent := goodIn_r _ [24, 18, 19, 5, 6, 7, 8, 9, 29, 30, 31, 32] (by decide +kernel) (by decide +kernel)
set_option maxRecDepth 20000 in
theorem gX2_cut_X0_putParent : GoodIn wsX2_cut (wsV RX2 52 RX0 yX0_putParent wsX0_putParent) := goodIn_app (goodIn_of _ (by decide +kernel)) ggX2_cut_X0_putParent
theorem dX2_cut_0 : decode cX2_cut 0 = .ok (.aload_n 0, 1) := by decide +kernel
theorem dX2_cut_1 : decode cX2_cut 1 = .ok (.getfield 10, 3) := by decide +kernel
theorem dX2_cut_4 : decode cX2_cut 4 = .ok (.iload_n 1, 1) := by decide +kernel
theorem dX2_cut_5 : decode cX2_cut 5 = .ok (.invokevirtual 38, 3) := by decide +kernel
theorem dX2_cut_8 : decode cX2_cut 8 = .ok (.ifCond .ne 6, 3) := by decide +kernel
theorem dX2_cut_11 : decode cX2_cut 11 = .ok (.ldc 42, 2) := by decide +kernel
theorem dX2_cut_13 : decode cX2_cut 13 = .ok (.ireturn, 1) := by decide +kernel
theorem dX2_cut_14 : decode cX2_cut 14 = .ok (.aload_n 0, 1) := by decide +kernel
theorem dX2_cut_15 : decode cX2_cut 15 = .ok (.getfield 10, 3) := by decide +kernel
theorem dX2_cut_18 : decode cX2_cut 18 = .ok (.iload_n 1, 1) := by decide +kernel
theorem dX2_cut_19 : decode cX2_cut 19 = .ok (.invokevirtual 43, 3) := by decide +kernel
theorem dX2_cut_22 : decode cX2_cut 22 = .ok (.ifCond .eq 6, 3) := by decide +kernel
theorem dX2_cut_25 : decode cX2_cut 25 = .ok (.ldc 59, 2) := by decide +kernel
theorem dX2_cut_27 : decode cX2_cut 27 = .ok (.ireturn, 1) := by decide +kernel
theorem dX2_cut_28 : decode cX2_cut 28 = .ok (.aload_n 0, 1) := by decide +kernel
theorem dX2_cut_29 : decode cX2_cut 29 = .ok (.getfield 10, 3) := by decide +kernel
theorem dX2_cut_32 : decode cX2_cut 32 = .ok (.iload_n 1, 1) := by decide +kernel
theorem dX2_cut_33 : decode cX2_cut 33 = .ok (.invokevirtual 60, 3) := by decide +kernel
theorem dX2_cut_36 : decode cX2_cut 36 = .ok (.istore_n 2, 1) := by decide +kernel
theorem dX2_cut_37 : decode cX2_cut 37 = .ok (.aload_n 0, 1) := by decide +kernel
theorem dX2_cut_38 : decode cX2_cut 38 = .ok (.getfield 10, 3) := by decide +kernel
theorem dX2_cut_41 : decode cX2_cut 41 = .ok (.iload_n 1, 1) := by decide +kernel
theorem dX2_cut_42 : decode cX2_cut 42 = .ok (.iconst (-1), 1) := by decide +kernel
theorem dX2_cut_43 : decode cX2_cut 43 = .ok (.invokevirtual 52, 3) := by decide +kernel
theorem dX2_cut_46 : decode cX2_cut 46 = .ok (.iload_n 2, 1) := by decide +kernel
theorem dX2_cut_47 : decode cX2_cut 47 = .ok (.ireturn, 1) := by decide +kernel
set_option maxRecDepth 20000 in
theorem ggX2_reroot_X0_has : GoodIn wsX2_reroot wsX0_has := goodIn_r _ [7, 8, 39, 40, 41, 42] (by decide +kernel) (by decide +kernel)
set_option maxRecDepth 20000 in
theorem gX2_reroot_X0_has : GoodIn wsX2_reroot (wsV RX2 38 RX0 yX0_has wsX0_has) := goodIn_app (goodIn_of _ (by decide +kernel)) ggX2_reroot_X0_has
set_option maxRecDepth 20000 in
theorem ggX2_reroot_X0_rootOf : GoodIn wsX2_reroot wsX0_rootOf := goodIn_r _ [12, 13, 14, 15, 6, 16, 17, 18, 19, 20, 21, 22, 4, 5, 7, 8, 23, 24, 25, 26, 39, 40, 41, 42] (by decide +kernel) (by decide +kernel)
set_option maxRecDepth 20000 in
theorem gX2_reroot_X0_rootOf : GoodIn wsX2_reroot (wsV RX2 47 RX0 yX0_rootOf wsX0_rootOf) := goodIn_app (goodIn_of _ (by decide +kernel)) ggX2_reroot_X0_rootOf
set_option maxRecDepth 20000 in
theorem ggX2_reroot_X0_turnTowards : GoodIn wsX2_reroot wsX0_turnTowards := goodIn_r _ [30, 13, 14, 15, 6, 16, 17, 18, 19, 20, 21, 22, 4, 5, 7, 8, 31, 32, 33, 34, 39, 40, 41, 42] (by decide +kernel) (by decide +kernel)
set_option maxRecDepth 20000 in
theorem gX2_reroot_X0_turnTowards : GoodIn wsX2_reroot (wsV RX2 63 RX0 yX0_turnTowards wsX0_turnTowards) := goodIn_app (goodIn_of _ (by decide +kernel)) ggX2_reroot_X0_turnTowards
theorem dX2_reroot_0 : decode cX2_reroot 0 = .ok (.aload_n 0, 1) := by decide +kernel
theorem dX2_reroot_1 : decode cX2_reroot 1 = .ok (.getfield 10, 3) := by decide +kernel
theorem dX2_reroot_4 : decode cX2_reroot 4 = .ok (.iload_n 1, 1) := by decide +kernel
theorem dX2_reroot_5 : decode cX2_reroot 5 = .ok (.invokevirtual 38, 3) := by decide +kernel
theorem dX2_reroot_8 : decode cX2_reroot 8 = .ok (.ifCond .ne 6, 3) := by decide +kernel
theorem dX2_reroot_11 : decode cX2_reroot 11 = .ok (.ldc 42, 2) := by decide +kernel
theorem dX2_reroot_13 : decode cX2_reroot 13 = .ok (.ireturn, 1) := by decide +kernel
theorem dX2_reroot_14 : decode cX2_reroot 14 = .ok (.aload_n 0, 1) := by decide +kernel
theorem dX2_reroot_15 : decode cX2_reroot 15 = .ok (.getfield 10, 3) := by decide +kernel
theorem dX2_reroot_18 : decode cX2_reroot 18 = .ok (.iload_n 1, 1) := by decide +kernel
theorem dX2_reroot_19 : decode cX2_reroot 19 = .ok (.invokevirtual 47, 3) := by decide +kernel
theorem dX2_reroot_22 : decode cX2_reroot 22 = .ok (.istore_n 2, 1) := by decide +kernel
theorem dX2_reroot_23 : decode cX2_reroot 23 = .ok (.aload_n 0, 1) := by decide +kernel
theorem dX2_reroot_24 : decode cX2_reroot 24 = .ok (.getfield 10, 3) := by decide +kernel
theorem dX2_reroot_27 : decode cX2_reroot 27 = .ok (.iload_n 1, 1) := by decide +kernel
theorem dX2_reroot_28 : decode cX2_reroot 28 = .ok (.invokevirtual 63, 3) := by decide +kernel
theorem dX2_reroot_31 : decode cX2_reroot 31 = .ok (.iload_n 2, 1) := by decide +kernel
theorem dX2_reroot_32 : decode cX2_reroot 32 = .ok (.ireturn, 1) := by decide +kernel
set_option maxRecDepth 20000 in
theorem ggX2_vertexCount_X0_size : GoodIn wsX2_vertexCount wsX0_size := goodIn_r _ [6, 7, 12, 13, 14, 15] (by decide +kernel) (by decide +kernel)
set_option maxRecDepth 20000 in
theorem gX2_vertexCount_X0_size : GoodIn wsX2_vertexCount (wsV RX2 34 RX0 yX0_size wsX0_size) := goodIn_app (goodIn_of _ (by decide +kernel)) ggX2_vertexCount_X0_size
theorem dX2_vertexCount_0 : decode cX2_vertexCount 0 = .ok (.aload_n 0, 1) := by decide +kernel
theorem dX2_vertexCount_1 : decode cX2_vertexCount 1 = .ok (.getfield 10, 3) := by decide +kernel
theorem dX2_vertexCount_4 : decode cX2_vertexCount 4 = .ok (.invokevirtual 34, 3) := by decide +kernel
theorem dX2_vertexCount_7 : decode cX2_vertexCount 7 = .ok (.ireturn, 1) := by decide +kernel
set_option maxRecDepth 20000 in
theorem ggX2_treeCount_X0_countRoots : GoodIn wsX2_treeCount wsX0_countRoots := goodIn_r _ [6, 7, 8, 9, 10, 5, 11, 12, 13, 14, 15, 16, 17, 18, 19, 20, 25, 26, 27, 28] (by decide +kernel) (by decide +kernel)
set_option maxRecDepth 20000 in
theorem gX2_treeCount_X0_countRoots : GoodIn wsX2_treeCount (wsV RX2 66 RX0 yX0_countRoots wsX0_countRoots) := goodIn_app (goodIn_of _ (by decide +kernel)) ggX2_treeCount_X0_countRoots
theorem dX2_treeCount_0 : decode cX2_treeCount 0 = .ok (.aload_n 0, 1) := by decide +kernel
theorem dX2_treeCount_1 : decode cX2_treeCount 1 = .ok (.getfield 10, 3) := by decide +kernel
theorem dX2_treeCount_4 : decode cX2_treeCount 4 = .ok (.invokevirtual 66, 3) := by decide +kernel
theorem dX2_treeCount_7 : decode cX2_treeCount 7 = .ok (.ireturn, 1) := by decide +kernel
set_option maxRecDepth 20000 in
theorem ggX2_parent_X0_has : GoodIn wsX2_parent wsX0_has := goodIn_r _ [8, 9, 25, 26, 27, 28] (by decide +kernel) (by decide +kernel)
set_option maxRecDepth 20000 in
theorem gX2_parent_X0_has : GoodIn wsX2_parent (wsV RX2 38 RX0 yX0_has wsX0_has) := goodIn_app (goodIn_of _ (by decide +kernel)) ggX2_parent_X0_has
set_option maxRecDepth 20000 in
theorem ggX2_parent_X0_isRoot : GoodIn wsX2_parent wsX0_isRoot := goodIn_r _ [13, 14, 15, 16, 7, 17, 18, 19, 5, 6, 8, 9, 25, 26, 27, 28] (by decide +kernel) (by decide +kernel)
set_option maxRecDepth 20000 in
theorem gX2_parent_X0_isRoot : GoodIn wsX2_parent (wsV RX2 43 RX0 yX0_isRoot wsX0_isRoot) := goodIn_app (goodIn_of _ (by decide +kernel)) ggX2_parent_X0_isRoot
set_option maxRecDepth 20000 in
theorem ggX2_parent_X0_parentOf : GoodIn wsX2_parent wsX0_parentOf := goodIn_r _ [17, 18, 19, 5, 6, 7, 8, 9, 25, 26, 27, 28] (by decide +kernel) (by decide +kernel)
set_option maxRecDepth 20000 in
theorem gX2_parent_X0_parentOf : GoodIn wsX2_parent (wsV RX2 60 RX0 yX0_parentOf wsX0_parentOf) := goodIn_app (goodIn_of _ (by decide +kernel)) ggX2_parent_X0_parentOf
theorem dX2_parent_0 : decode cX2_parent 0 = .ok (.aload_n 0, 1) := by decide +kernel
theorem dX2_parent_1 : decode cX2_parent 1 = .ok (.getfield 10, 3) := by decide +kernel
theorem dX2_parent_4 : decode cX2_parent 4 = .ok (.iload_n 1, 1) := by decide +kernel
theorem dX2_parent_5 : decode cX2_parent 5 = .ok (.invokevirtual 38, 3) := by decide +kernel
theorem dX2_parent_8 : decode cX2_parent 8 = .ok (.ifCond .ne 6, 3) := by decide +kernel
theorem dX2_parent_11 : decode cX2_parent 11 = .ok (.ldc 42, 2) := by decide +kernel
theorem dX2_parent_13 : decode cX2_parent 13 = .ok (.ireturn, 1) := by decide +kernel
theorem dX2_parent_14 : decode cX2_parent 14 = .ok (.aload_n 0, 1) := by decide +kernel
theorem dX2_parent_15 : decode cX2_parent 15 = .ok (.getfield 10, 3) := by decide +kernel
theorem dX2_parent_18 : decode cX2_parent 18 = .ok (.iload_n 1, 1) := by decide +kernel
theorem dX2_parent_19 : decode cX2_parent 19 = .ok (.invokevirtual 43, 3) := by decide +kernel
theorem dX2_parent_22 : decode cX2_parent 22 = .ok (.ifCond .eq 8, 3) := by decide +kernel
theorem dX2_parent_25 : decode cX2_parent 25 = .ok (.ldc 59, 2) := by decide +kernel
theorem dX2_parent_27 : decode cX2_parent 27 = .ok (.goto 11, 3) := by decide +kernel
theorem dX2_parent_30 : decode cX2_parent 30 = .ok (.aload_n 0, 1) := by decide +kernel
theorem dX2_parent_31 : decode cX2_parent 31 = .ok (.getfield 10, 3) := by decide +kernel
theorem dX2_parent_34 : decode cX2_parent 34 = .ok (.iload_n 1, 1) := by decide +kernel
theorem dX2_parent_35 : decode cX2_parent 35 = .ok (.invokevirtual 60, 3) := by decide +kernel
theorem dX2_parent_38 : decode cX2_parent 38 = .ok (.ireturn, 1) := by decide +kernel
set_option maxRecDepth 20000 in
theorem ggX2_root_X0_has : GoodIn wsX2_root wsX0_has := goodIn_r _ [7, 8, 31, 32, 33, 34] (by decide +kernel) (by decide +kernel)
set_option maxRecDepth 20000 in
theorem gX2_root_X0_has : GoodIn wsX2_root (wsV RX2 38 RX0 yX0_has wsX0_has) := goodIn_app (goodIn_of _ (by decide +kernel)) ggX2_root_X0_has
set_option maxRecDepth 20000 in
theorem ggX2_root_X0_rootOf : GoodIn wsX2_root wsX0_rootOf := goodIn_r _ [12, 13, 14, 15, 6, 16, 17, 18, 19, 20, 21, 22, 4, 5, 7, 8, 23, 24, 25, 26, 31, 32, 33, 34] (by decide +kernel) (by decide +kernel)
set_option maxRecDepth 20000 in
theorem gX2_root_X0_rootOf : GoodIn wsX2_root (wsV RX2 47 RX0 yX0_rootOf wsX0_rootOf) := goodIn_app (goodIn_of _ (by decide +kernel)) ggX2_root_X0_rootOf
theorem dX2_root_0 : decode cX2_root 0 = .ok (.aload_n 0, 1) := by decide +kernel
theorem dX2_root_1 : decode cX2_root 1 = .ok (.getfield 10, 3) := by decide +kernel
theorem dX2_root_4 : decode cX2_root 4 = .ok (.iload_n 1, 1) := by decide +kernel
theorem dX2_root_5 : decode cX2_root 5 = .ok (.invokevirtual 38, 3) := by decide +kernel
theorem dX2_root_8 : decode cX2_root 8 = .ok (.ifCond .eq 14, 3) := by decide +kernel
theorem dX2_root_11 : decode cX2_root 11 = .ok (.aload_n 0, 1) := by decide +kernel
theorem dX2_root_12 : decode cX2_root 12 = .ok (.getfield 10, 3) := by decide +kernel
theorem dX2_root_15 : decode cX2_root 15 = .ok (.iload_n 1, 1) := by decide +kernel
theorem dX2_root_16 : decode cX2_root 16 = .ok (.invokevirtual 47, 3) := by decide +kernel
theorem dX2_root_19 : decode cX2_root 19 = .ok (.goto 5, 3) := by decide +kernel
theorem dX2_root_22 : decode cX2_root 22 = .ok (.ldc 42, 2) := by decide +kernel
theorem dX2_root_24 : decode cX2_root 24 = .ok (.ireturn, 1) := by decide +kernel
set_option maxRecDepth 20000 in
theorem ggX2_depth_X0_has : GoodIn wsX2_depth wsX0_has := goodIn_r _ [7, 8, 23, 24, 25, 26] (by decide +kernel) (by decide +kernel)
set_option maxRecDepth 20000 in
theorem gX2_depth_X0_has : GoodIn wsX2_depth (wsV RX2 38 RX0 yX0_has wsX0_has) := goodIn_app (goodIn_of _ (by decide +kernel)) ggX2_depth_X0_has
set_option maxRecDepth 20000 in
theorem ggX2_depth_X0_depthOf : GoodIn wsX2_depth wsX0_depthOf := goodIn_r _ [12, 13, 14, 15, 6, 16, 17, 18, 4, 5, 7, 8, 23, 24, 25, 26] (by decide +kernel) (by decide +kernel)
set_option maxRecDepth 20000 in
theorem gX2_depth_X0_depthOf : GoodIn wsX2_depth (wsV RX2 69 RX0 yX0_depthOf wsX0_depthOf) := goodIn_app (goodIn_of _ (by decide +kernel)) ggX2_depth_X0_depthOf
theorem dX2_depth_0 : decode cX2_depth 0 = .ok (.aload_n 0, 1) := by decide +kernel
theorem dX2_depth_1 : decode cX2_depth 1 = .ok (.getfield 10, 3) := by decide +kernel
theorem dX2_depth_4 : decode cX2_depth 4 = .ok (.iload_n 1, 1) := by decide +kernel
theorem dX2_depth_5 : decode cX2_depth 5 = .ok (.invokevirtual 38, 3) := by decide +kernel
theorem dX2_depth_8 : decode cX2_depth 8 = .ok (.ifCond .eq 14, 3) := by decide +kernel
theorem dX2_depth_11 : decode cX2_depth 11 = .ok (.aload_n 0, 1) := by decide +kernel
theorem dX2_depth_12 : decode cX2_depth 12 = .ok (.getfield 10, 3) := by decide +kernel
theorem dX2_depth_15 : decode cX2_depth 15 = .ok (.iload_n 1, 1) := by decide +kernel
theorem dX2_depth_16 : decode cX2_depth 16 = .ok (.invokevirtual 69, 3) := by decide +kernel
theorem dX2_depth_19 : decode cX2_depth 19 = .ok (.goto 5, 3) := by decide +kernel
theorem dX2_depth_22 : decode cX2_depth 22 = .ok (.ldc 42, 2) := by decide +kernel
theorem dX2_depth_24 : decode cX2_depth 24 = .ok (.ireturn, 1) := by decide +kernel
set_option maxRecDepth 20000 in
theorem ggX2_connected_X0_has : GoodIn wsX2_connected wsX0_has := goodIn_r _ [7, 8, 31, 32, 33, 34] (by decide +kernel) (by decide +kernel)
set_option maxRecDepth 20000 in
theorem gX2_connected_X0_has : GoodIn wsX2_connected (wsV RX2 38 RX0 yX0_has wsX0_has) := goodIn_app (goodIn_of _ (by decide +kernel)) ggX2_connected_X0_has
set_option maxRecDepth 20000 in
theorem ggX2_connected_X0_rootOf : GoodIn wsX2_connected wsX0_rootOf := goodIn_r _ [12, 13, 14, 15, 6, 16, 17, 18, 19, 20, 21, 22, 4, 5, 7, 8, 23, 24, 25, 26, 31, 32, 33, 34] (by decide +kernel) (by decide +kernel)
set_option maxRecDepth 20000 in
theorem gX2_connected_X0_rootOf : GoodIn wsX2_connected (wsV RX2 47 RX0 yX0_rootOf wsX0_rootOf) := goodIn_app (goodIn_of _ (by decide +kernel)) ggX2_connected_X0_rootOf
theorem dX2_connected_0 : decode cX2_connected 0 = .ok (.aload_n 0, 1) := by decide +kernel
theorem dX2_connected_1 : decode cX2_connected 1 = .ok (.getfield 10, 3) := by decide +kernel
theorem dX2_connected_4 : decode cX2_connected 4 = .ok (.iload_n 1, 1) := by decide +kernel
theorem dX2_connected_5 : decode cX2_connected 5 = .ok (.invokevirtual 38, 3) := by decide +kernel
theorem dX2_connected_8 : decode cX2_connected 8 = .ok (.ifCond .eq 14, 3) := by decide +kernel
theorem dX2_connected_11 : decode cX2_connected 11 = .ok (.aload_n 0, 1) := by decide +kernel
theorem dX2_connected_12 : decode cX2_connected 12 = .ok (.getfield 10, 3) := by decide +kernel
theorem dX2_connected_15 : decode cX2_connected 15 = .ok (.iload_n 2, 1) := by decide +kernel
theorem dX2_connected_16 : decode cX2_connected 16 = .ok (.invokevirtual 38, 3) := by decide +kernel
theorem dX2_connected_19 : decode cX2_connected 19 = .ok (.ifCond .ne 6, 3) := by decide +kernel
theorem dX2_connected_22 : decode cX2_connected 22 = .ok (.ldc 42, 2) := by decide +kernel
theorem dX2_connected_24 : decode cX2_connected 24 = .ok (.ireturn, 1) := by decide +kernel
theorem dX2_connected_25 : decode cX2_connected 25 = .ok (.aload_n 0, 1) := by decide +kernel
theorem dX2_connected_26 : decode cX2_connected 26 = .ok (.getfield 10, 3) := by decide +kernel
theorem dX2_connected_29 : decode cX2_connected 29 = .ok (.iload_n 1, 1) := by decide +kernel
theorem dX2_connected_30 : decode cX2_connected 30 = .ok (.invokevirtual 47, 3) := by decide +kernel
theorem dX2_connected_33 : decode cX2_connected 33 = .ok (.aload_n 0, 1) := by decide +kernel
theorem dX2_connected_34 : decode cX2_connected 34 = .ok (.getfield 10, 3) := by decide +kernel
theorem dX2_connected_37 : decode cX2_connected 37 = .ok (.iload_n 2, 1) := by decide +kernel
theorem dX2_connected_38 : decode cX2_connected 38 = .ok (.invokevirtual 47, 3) := by decide +kernel
theorem dX2_connected_41 : decode cX2_connected 41 = .ok (.if_icmp .ne 7, 3) := by decide +kernel
theorem dX2_connected_44 : decode cX2_connected 44 = .ok (.iconst 1, 1) := by decide +kernel
theorem dX2_connected_45 : decode cX2_connected 45 = .ok (.goto 4, 3) := by decide +kernel
theorem dX2_connected_48 : decode cX2_connected 48 = .ok (.iconst 0, 1) := by decide +kernel
theorem dX2_connected_49 : decode cX2_connected 49 = .ok (.ireturn, 1) := by decide +kernel
set_option maxRecDepth 20000 in
theorem ggX2_commonAncestor_X2_pathError : GoodIn wsX2_commonAncestor wsX2_pathError := goodIn_r _ [6, 1, 7, 8, 9, 10, 11, 12, 13, 14, 15, 16, 17, 18, 19, 20, 21, 22, 23, 24, 25, 26, 27, 28, 29, 30, 31, 32, 37, 38, 39, 40, 41, 42, 43, 44] (by decide +kernel) (by decide +kernel)
set_option maxRecDepth 20000 in
theorem gX2_commonAncestor_X2_pathError : GoodIn wsX2_commonAncestor (wsV RX2 72 RX2 yX2_pathError wsX2_pathError) := goodIn_app (goodIn_of _ (by decide +kernel)) ggX2_commonAncestor_X2_pathError
set_option maxRecDepth 20000 in
theorem ggX2_commonAncestor_X0_meetingPoint : GoodIn wsX2_commonAncestor wsX0_meetingPoint := goodIn_r _ [36, 19, 20, 21, 12, 22, 23, 24, 25, 26, 27, 28, 10, 11, 13, 14, 29, 30, 31, 32, 41, 42, 43, 44] (by decide +kernel) (by decide +kernel)
set_option maxRecDepth 20000 in
theorem gX2_commonAncestor_X0_meetingPoint : GoodIn wsX2_commonAncestor (wsV RX2 76 RX0 yX0_meetingPoint wsX0_meetingPoint) := goodIn_app (goodIn_of _ (by decide +kernel)) ggX2_commonAncestor_X0_meetingPoint
theorem dX2_commonAncestor_0 : decode cX2_commonAncestor 0 = .ok (.aload_n 0, 1) := by decide +kernel
theorem dX2_commonAncestor_1 : decode cX2_commonAncestor 1 = .ok (.iload_n 1, 1) := by decide +kernel
theorem dX2_commonAncestor_2 : decode cX2_commonAncestor 2 = .ok (.iload_n 2, 1) := by decide +kernel
theorem dX2_commonAncestor_3 : decode cX2_commonAncestor 3 = .ok (.invokevirtual 72, 3) := by decide +kernel
theorem dX2_commonAncestor_6 : decode cX2_commonAncestor 6 = .ok (.istore_n 3, 1) := by decide +kernel
theorem dX2_commonAncestor_7 : decode cX2_commonAncestor 7 = .ok (.iload_n 3, 1) := by decide +kernel
theorem dX2_commonAncestor_8 : decode cX2_commonAncestor 8 = .ok (.ifCond .eq 7, 3) := by decide +kernel
theorem dX2_commonAncestor_11 : decode cX2_commonAncestor 11 = .ok (.iload_n 3, 1) := by decide +kernel
theorem dX2_commonAncestor_12 : decode cX2_commonAncestor 12 = .ok (.goto 12, 3) := by decide +kernel
theorem dX2_commonAncestor_15 : decode cX2_commonAncestor 15 = .ok (.aload_n 0, 1) := by decide +kernel
theorem dX2_commonAncestor_16 : decode cX2_commonAncestor 16 = .ok (.getfield 10, 3) := by decide +kernel
theorem dX2_commonAncestor_19 : decode cX2_commonAncestor 19 = .ok (.iload_n 1, 1) := by decide +kernel
theorem dX2_commonAncestor_20 : decode cX2_commonAncestor 20 = .ok (.iload_n 2, 1) := by decide +kernel
theorem dX2_commonAncestor_21 : decode cX2_commonAncestor 21 = .ok (.invokevirtual 76, 3) := by decide +kernel
theorem dX2_commonAncestor_24 : decode cX2_commonAncestor 24 = .ok (.ireturn, 1) := by decide +kernel
set_option maxRecDepth 20000 in
theorem ggX2_distance_X2_pathError : GoodIn wsX2_distance wsX2_pathError := goodIn_r _ [6, 1, 7, 8, 9, 10, 11, 12, 13, 14, 15, 16, 17, 18, 19, 20, 21, 22, 23, 24, 25, 26, 27, 28, 29, 30, 31, 32, 41, 42, 43, 44, 45, 46, 47, 48] (by decide +kernel) (by decide +kernel)
set_option maxRecDepth 20000 in
theorem gX2_distance_X2_pathError : GoodIn wsX2_distance (wsV RX2 72 RX2 yX2_pathError wsX2_pathError) := goodIn_app (goodIn_of _ (by decide +kernel)) ggX2_distance_X2_pathError
set_option maxRecDepth 20000 in
theorem ggX2_distance_X0_edgesBetween : GoodIn wsX2_distance wsX0_edgesBetween := goodIn_r _ [36, 19, 20, 21, 12, 22, 23, 24, 25, 26, 27, 28, 10, 11, 13, 14, 37, 38, 39, 40, 29, 30, 31, 32, 45, 46, 47, 48] (by decide +kernel) (by decide +kernel)
set_option maxRecDepth 20000 in
theorem gX2_distance_X0_edgesBetween : GoodIn wsX2_distance (wsV RX2 79 RX0 yX0_edgesBetween wsX0_edgesBetween) := goodIn_app (goodIn_of _ (by decide +kernel)) ggX2_distance_X0_edgesBetween
theorem dX2_distance_0 : decode cX2_distance 0 = .ok (.aload_n 0, 1) := by decide +kernel
theorem dX2_distance_1 : decode cX2_distance 1 = .ok (.iload_n 1, 1) := by decide +kernel
theorem dX2_distance_2 : decode cX2_distance 2 = .ok (.iload_n 2, 1) := by decide +kernel
theorem dX2_distance_3 : decode cX2_distance 3 = .ok (.invokevirtual 72, 3) := by decide +kernel
theorem dX2_distance_6 : decode cX2_distance 6 = .ok (.istore_n 3, 1) := by decide +kernel
theorem dX2_distance_7 : decode cX2_distance 7 = .ok (.iload_n 3, 1) := by decide +kernel
theorem dX2_distance_8 : decode cX2_distance 8 = .ok (.ifCond .eq 7, 3) := by decide +kernel
theorem dX2_distance_11 : decode cX2_distance 11 = .ok (.iload_n 3, 1) := by decide +kernel
theorem dX2_distance_12 : decode cX2_distance 12 = .ok (.goto 12, 3) := by decide +kernel
theorem dX2_distance_15 : decode cX2_distance 15 = .ok (.aload_n 0, 1) := by decide +kernel
theorem dX2_distance_16 : decode cX2_distance 16 = .ok (.getfield 10, 3) := by decide +kernel
theorem dX2_distance_19 : decode cX2_distance 19 = .ok (.iload_n 1, 1) := by decide +kernel
theorem dX2_distance_20 : decode cX2_distance 20 = .ok (.iload_n 2, 1) := by decide +kernel
theorem dX2_distance_21 : decode cX2_distance 21 = .ok (.invokevirtual 79, 3) := by decide +kernel
theorem dX2_distance_24 : decode cX2_distance 24 = .ok (.ireturn, 1) := by decide +kernel
set_option maxRecDepth 20000 in
theorem ggX2_pathVertex_X2_tracePath : GoodIn wsX2_pathVertex wsX2_tracePath := goodIn_r _ [7, 1, 8, 9, 10, 11, 6, 12, 13, 14, 15, 16, 17, 18, 19, 20, 21, 22, 23, 24, 25, 26, 27, 28, 29, 30, 31, 32, 33, 34, 35, 36, 37, 38, 39, 40, 41, 42, 43, 44, 45, 46, 47, 48, 49, 50, 51, 52, 53, 54, 55, 56, 57, 58, 59, 60, 61, 62, 63, 64, 65, 66, 67, 68, 69, 70, 76, 77, 78, 79, 80, 81, 82, 83, 84, 85] (by decide +kernel) (by decide +kernel)
set_option maxRecDepth 20000 in
theorem gX2_pathVertex_X2_tracePath : GoodIn wsX2_pathVertex (wsV RX2 82 RX2 yX2_tracePath wsX2_tracePath) := goodIn_app (goodIn_of _ (by decide +kernel)) ggX2_pathVertex_X2_tracePath
set_option maxRecDepth 20000 in
theorem ggX2_pathVertex_X1_hasIndex : GoodIn wsX2_pathVertex wsX1_hasIndex := goodIn_r _ [70, 44, 84, 85] (by decide +kernel) (by decide +kernel)
set_option maxRecDepth 20000 in
theorem gX2_pathVertex_X1_hasIndex : GoodIn wsX2_pathVertex (wsV RX2 85 RX1 yX1_hasIndex wsX1_hasIndex) := goodIn_app (goodIn_of _ (by decide +kernel)) ggX2_pathVertex_X1_hasIndex
set_option maxRecDepth 20000 in
theorem ggX2_pathVertex_X1_vertexAt : GoodIn wsX2_pathVertex wsX1_vertexAt := goodIn_r _ [75, 57, 67, 68, 69, 42, 70, 44, 84, 85] (by decide +kernel) (by decide +kernel)
set_option maxRecDepth 20000 in
theorem gX2_pathVertex_X1_vertexAt : GoodIn wsX2_pathVertex (wsV RX2 88 RX1 yX1_vertexAt wsX1_vertexAt) := goodIn_app (goodIn_of _ (by decide +kernel)) ggX2_pathVertex_X1_vertexAt
theorem dX2_pathVertex_0 : decode cX2_pathVertex 0 = .ok (.aload_n 0, 1) := by decide +kernel
theorem dX2_pathVertex_1 : decode cX2_pathVertex 1 = .ok (.iload_n 1, 1) := by decide +kernel
theorem dX2_pathVertex_2 : decode cX2_pathVertex 2 = .ok (.iload_n 2, 1) := by decide +kernel
theorem dX2_pathVertex_3 : decode cX2_pathVertex 3 = .ok (.invokevirtual 82, 3) := by decide +kernel
theorem dX2_pathVertex_6 : decode cX2_pathVertex 6 = .ok (.istore 4, 2) := by decide +kernel
theorem dX2_pathVertex_8 : decode cX2_pathVertex 8 = .ok (.iload 4, 2) := by decide +kernel
theorem dX2_pathVertex_10 : decode cX2_pathVertex 10 = .ok (.ifCond .eq 6, 3) := by decide +kernel
theorem dX2_pathVertex_13 : decode cX2_pathVertex 13 = .ok (.iload 4, 2) := by decide +kernel
theorem dX2_pathVertex_15 : decode cX2_pathVertex 15 = .ok (.ireturn, 1) := by decide +kernel
theorem dX2_pathVertex_16 : decode cX2_pathVertex 16 = .ok (.aload_n 0, 1) := by decide +kernel
theorem dX2_pathVertex_17 : decode cX2_pathVertex 17 = .ok (.getfield 25, 3) := by decide +kernel
theorem dX2_pathVertex_20 : decode cX2_pathVertex 20 = .ok (.iload_n 3, 1) := by decide +kernel
theorem dX2_pathVertex_21 : decode cX2_pathVertex 21 = .ok (.invokevirtual 85, 3) := by decide +kernel
theorem dX2_pathVertex_24 : decode cX2_pathVertex 24 = .ok (.ifCond .eq 14, 3) := by decide +kernel
theorem dX2_pathVertex_27 : decode cX2_pathVertex 27 = .ok (.aload_n 0, 1) := by decide +kernel
theorem dX2_pathVertex_28 : decode cX2_pathVertex 28 = .ok (.getfield 25, 3) := by decide +kernel
theorem dX2_pathVertex_31 : decode cX2_pathVertex 31 = .ok (.iload_n 3, 1) := by decide +kernel
theorem dX2_pathVertex_32 : decode cX2_pathVertex 32 = .ok (.invokevirtual 88, 3) := by decide +kernel
theorem dX2_pathVertex_35 : decode cX2_pathVertex 35 = .ok (.goto 5, 3) := by decide +kernel
theorem dX2_pathVertex_38 : decode cX2_pathVertex 38 = .ok (.ldc 59, 2) := by decide +kernel
theorem dX2_pathVertex_40 : decode cX2_pathVertex 40 = .ok (.ireturn, 1) := by decide +kernel
set_option maxRecDepth 20000 in
theorem ggX2_pathSum_X2_tracePath : GoodIn wsX2_pathSum wsX2_tracePath := goodIn_r _ [7, 1, 2, 8, 9, 10, 6, 11, 12, 13, 14, 15, 16, 17, 18, 19, 20, 21, 22, 23, 24, 25, 26, 27, 28, 29, 30, 31, 32, 33, 34, 35, 36, 37, 38, 39, 40, 41, 42, 43, 44, 45, 46, 47, 48, 49, 50, 51, 52, 53, 54, 55, 56, 57, 58, 59, 60, 61, 62, 63, 64, 65, 66, 67, 68, 69, 83, 84, 85, 86, 87, 88, 89, 90, 91, 92] (by decide +kernel) (by decide +kernel)
set_option maxRecDepth 20000 in
theorem gX2_pathSum_X2_tracePath : GoodIn wsX2_pathSum (wsV RX2 82 RX2 yX2_tracePath wsX2_tracePath) := goodIn_app (goodIn_of _ (by decide +kernel)) ggX2_pathSum_X2_tracePath
set_option maxRecDepth 20000 in
theorem ggX2_pathSum_X1_length : GoodIn wsX2_pathSum wsX1_length := goodIn_r _ [73, 43, 91, 92] (by decide +kernel) (by decide +kernel)
set_option maxRecDepth 20000 in
theorem gX2_pathSum_X1_length : GoodIn wsX2_pathSum (wsV RX2 91 RX1 yX1_length wsX1_length) := goodIn_app (goodIn_of _ (by decide +kernel)) ggX2_pathSum_X1_length
set_option maxRecDepth 20000 in
theorem ggX2_pathSum_X1_vertexAt : GoodIn wsX2_pathSum wsX1_vertexAt := goodIn_r _ [77, 56, 66, 67, 68, 41, 69, 43, 91, 92] (by decide +kernel) (by decide +kernel)
set_option maxRecDepth 20000 in
theorem gX2_pathSum_X1_vertexAt : GoodIn wsX2_pathSum (wsV RX2 88 RX1 yX1_vertexAt wsX1_vertexAt) := goodIn_app (goodIn_of _ (by decide +kernel)) ggX2_pathSum_X1_vertexAt
set_option maxRecDepth 20000 in
theorem ggX2_pathSum_X0_valueOf : GoodIn wsX2_pathSum wsX0_valueOf := goodIn_r _ [81, 82, 33, 15, 16, 17, 18, 19, 87, 88, 89, 90] (by decide +kernel) (by decide +kernel)
set_option maxRecDepth 20000 in
theorem gX2_pathSum_X0_valueOf : GoodIn wsX2_pathSum (wsV RX2 94 RX0 yX0_valueOf wsX0_valueOf) := goodIn_app (goodIn_of _ (by decide +kernel)) ggX2_pathSum_X0_valueOf
theorem dX2_pathSum_0 : decode cX2_pathSum 0 = .ok (.aload_n 0, 1) := by decide +kernel
theorem dX2_pathSum_1 : decode cX2_pathSum 1 = .ok (.iload_n 1, 1) := by decide +kernel
theorem dX2_pathSum_2 : decode cX2_pathSum 2 = .ok (.iload_n 2, 1) := by decide +kernel
theorem dX2_pathSum_3 : decode cX2_pathSum 3 = .ok (.invokevirtual 82, 3) := by decide +kernel
theorem dX2_pathSum_6 : decode cX2_pathSum 6 = .ok (.istore_n 3, 1) := by decide +kernel
theorem dX2_pathSum_7 : decode cX2_pathSum 7 = .ok (.iload_n 3, 1) := by decide +kernel
theorem dX2_pathSum_8 : decode cX2_pathSum 8 = .ok (.ifCond .eq 5, 3) := by decide +kernel
theorem dX2_pathSum_11 : decode cX2_pathSum 11 = .ok (.iload_n 3, 1) := by decide +kernel
theorem dX2_pathSum_12 : decode cX2_pathSum 12 = .ok (.ireturn, 1) := by decide +kernel
theorem dX2_pathSum_13 : decode cX2_pathSum 13 = .ok (.iconst 0, 1) := by decide +kernel
theorem dX2_pathSum_14 : decode cX2_pathSum 14 = .ok (.istore 4, 2) := by decide +kernel
theorem dX2_pathSum_16 : decode cX2_pathSum 16 = .ok (.iconst 0, 1) := by decide +kernel
theorem dX2_pathSum_17 : decode cX2_pathSum 17 = .ok (.istore 5, 2) := by decide +kernel
theorem dX2_pathSum_19 : decode cX2_pathSum 19 = .ok (.iload 5, 2) := by decide +kernel
theorem dX2_pathSum_21 : decode cX2_pathSum 21 = .ok (.aload_n 0, 1) := by decide +kernel
theorem dX2_pathSum_22 : decode cX2_pathSum 22 = .ok (.getfield 25, 3) := by decide +kernel
theorem dX2_pathSum_25 : decode cX2_pathSum 25 = .ok (.invokevirtual 91, 3) := by decide +kernel
theorem dX2_pathSum_28 : decode cX2_pathSum 28 = .ok (.if_icmp .ge 30, 3) := by decide +kernel
theorem dX2_pathSum_31 : decode cX2_pathSum 31 = .ok (.iload 4, 2) := by decide +kernel
theorem dX2_pathSum_33 : decode cX2_pathSum 33 = .ok (.aload_n 0, 1) := by decide +kernel
theorem dX2_pathSum_34 : decode cX2_pathSum 34 = .ok (.getfield 10, 3) := by decide +kernel
theorem dX2_pathSum_37 : decode cX2_pathSum 37 = .ok (.aload_n 0, 1) := by decide +kernel
theorem dX2_pathSum_38 : decode cX2_pathSum 38 = .ok (.getfield 25, 3) := by decide +kernel
theorem dX2_pathSum_41 : decode cX2_pathSum 41 = .ok (.iload 5, 2) := by decide +kernel
theorem dX2_pathSum_43 : decode cX2_pathSum 43 = .ok (.invokevirtual 88, 3) := by decide +kernel
theorem dX2_pathSum_46 : decode cX2_pathSum 46 = .ok (.invokevirtual 94, 3) := by decide +kernel
theorem dX2_pathSum_49 : decode cX2_pathSum 49 = .ok (.iadd, 1) := by decide +kernel
theorem dX2_pathSum_50 : decode cX2_pathSum 50 = .ok (.istore 4, 2) := by decide +kernel
theorem dX2_pathSum_52 : decode cX2_pathSum 52 = .ok (.iinc 5 1, 3) := by decide +kernel
theorem dX2_pathSum_55 : decode cX2_pathSum 55 = .ok (.goto (-36), 3) := by decide +kernel
theorem dX2_pathSum_58 : decode cX2_pathSum 58 = .ok (.iload 4, 2) := by decide +kernel
theorem dX2_pathSum_60 : decode cX2_pathSum 60 = .ok (.ireturn, 1) := by decide +kernel
set_option maxRecDepth 20000 in
theorem ggX2_pathMinimum_X2_tracePath : GoodIn wsX2_pathMinimum wsX2_tracePath := goodIn_r _ [7, 1, 2, 8, 9, 10, 6, 11, 12, 13, 14, 15, 16, 17, 18, 19, 20, 21, 22, 23, 24, 25, 26, 27, 28, 29, 30, 31, 32, 33, 34, 35, 36, 37, 38, 39, 40, 41, 42, 43, 44, 45, 46, 47, 48, 49, 50, 51, 52, 53, 54, 55, 56, 57, 58, 59, 60, 61, 62, 63, 64, 65, 66, 67, 68, 69, 83, 84, 85, 86, 87, 88, 89, 90, 91, 92] (by decide +kernel) (by decide +kernel)
set_option maxRecDepth 20000 in
theorem gX2_pathMinimum_X2_tracePath : GoodIn wsX2_pathMinimum (wsV RX2 82 RX2 yX2_tracePath wsX2_tracePath) := goodIn_app (goodIn_of _ (by decide +kernel)) ggX2_pathMinimum_X2_tracePath
set_option maxRecDepth 20000 in
theorem ggX2_pathMinimum_X1_length : GoodIn wsX2_pathMinimum wsX1_length := goodIn_r _ [73, 43, 91, 92] (by decide +kernel) (by decide +kernel)
set_option maxRecDepth 20000 in
theorem gX2_pathMinimum_X1_length : GoodIn wsX2_pathMinimum (wsV RX2 91 RX1 yX1_length wsX1_length) := goodIn_app (goodIn_of _ (by decide +kernel)) ggX2_pathMinimum_X1_length
set_option maxRecDepth 20000 in
theorem ggX2_pathMinimum_X1_vertexAt : GoodIn wsX2_pathMinimum wsX1_vertexAt := goodIn_r _ [77, 56, 66, 67, 68, 41, 69, 43, 91, 92] (by decide +kernel) (by decide +kernel)
set_option maxRecDepth 20000 in
theorem gX2_pathMinimum_X1_vertexAt : GoodIn wsX2_pathMinimum (wsV RX2 88 RX1 yX1_vertexAt wsX1_vertexAt) := goodIn_app (goodIn_of _ (by decide +kernel)) ggX2_pathMinimum_X1_vertexAt
set_option maxRecDepth 20000 in
theorem ggX2_pathMinimum_X0_valueOf : GoodIn wsX2_pathMinimum wsX0_valueOf := goodIn_r _ [81, 82, 33, 15, 16, 17, 18, 19, 87, 88, 89, 90] (by decide +kernel) (by decide +kernel)
set_option maxRecDepth 20000 in
theorem gX2_pathMinimum_X0_valueOf : GoodIn wsX2_pathMinimum (wsV RX2 94 RX0 yX0_valueOf wsX0_valueOf) := goodIn_app (goodIn_of _ (by decide +kernel)) ggX2_pathMinimum_X0_valueOf
theorem dX2_pathMinimum_0 : decode cX2_pathMinimum 0 = .ok (.aload_n 0, 1) := by decide +kernel
theorem dX2_pathMinimum_1 : decode cX2_pathMinimum 1 = .ok (.iload_n 1, 1) := by decide +kernel
theorem dX2_pathMinimum_2 : decode cX2_pathMinimum 2 = .ok (.iload_n 2, 1) := by decide +kernel
theorem dX2_pathMinimum_3 : decode cX2_pathMinimum 3 = .ok (.invokevirtual 82, 3) := by decide +kernel
theorem dX2_pathMinimum_6 : decode cX2_pathMinimum 6 = .ok (.istore_n 3, 1) := by decide +kernel
theorem dX2_pathMinimum_7 : decode cX2_pathMinimum 7 = .ok (.iload_n 3, 1) := by decide +kernel
theorem dX2_pathMinimum_8 : decode cX2_pathMinimum 8 = .ok (.ifCond .eq 5, 3) := by decide +kernel
theorem dX2_pathMinimum_11 : decode cX2_pathMinimum 11 = .ok (.iload_n 3, 1) := by decide +kernel
theorem dX2_pathMinimum_12 : decode cX2_pathMinimum 12 = .ok (.ireturn, 1) := by decide +kernel
theorem dX2_pathMinimum_13 : decode cX2_pathMinimum 13 = .ok (.iload_n 1, 1) := by decide +kernel
theorem dX2_pathMinimum_14 : decode cX2_pathMinimum 14 = .ok (.istore 4, 2) := by decide +kernel
theorem dX2_pathMinimum_16 : decode cX2_pathMinimum 16 = .ok (.iconst 1, 1) := by decide +kernel
theorem dX2_pathMinimum_17 : decode cX2_pathMinimum 17 = .ok (.istore 5, 2) := by decide +kernel
theorem dX2_pathMinimum_19 : decode cX2_pathMinimum 19 = .ok (.iload 5, 2) := by decide +kernel
theorem dX2_pathMinimum_21 : decode cX2_pathMinimum 21 = .ok (.aload_n 0, 1) := by decide +kernel
theorem dX2_pathMinimum_22 : decode cX2_pathMinimum 22 = .ok (.getfield 25, 3) := by decide +kernel
theorem dX2_pathMinimum_25 : decode cX2_pathMinimum 25 = .ok (.invokevirtual 91, 3) := by decide +kernel
theorem dX2_pathMinimum_28 : decode cX2_pathMinimum 28 = .ok (.if_icmp .ge 48, 3) := by decide +kernel
theorem dX2_pathMinimum_31 : decode cX2_pathMinimum 31 = .ok (.aload_n 0, 1) := by decide +kernel
theorem dX2_pathMinimum_32 : decode cX2_pathMinimum 32 = .ok (.getfield 10, 3) := by decide +kernel
theorem dX2_pathMinimum_35 : decode cX2_pathMinimum 35 = .ok (.aload_n 0, 1) := by decide +kernel
theorem dX2_pathMinimum_36 : decode cX2_pathMinimum 36 = .ok (.getfield 25, 3) := by decide +kernel
theorem dX2_pathMinimum_39 : decode cX2_pathMinimum 39 = .ok (.iload 5, 2) := by decide +kernel
theorem dX2_pathMinimum_41 : decode cX2_pathMinimum 41 = .ok (.invokevirtual 88, 3) := by decide +kernel
theorem dX2_pathMinimum_44 : decode cX2_pathMinimum 44 = .ok (.invokevirtual 94, 3) := by decide +kernel
theorem dX2_pathMinimum_47 : decode cX2_pathMinimum 47 = .ok (.aload_n 0, 1) := by decide +kernel
theorem dX2_pathMinimum_48 : decode cX2_pathMinimum 48 = .ok (.getfield 10, 3) := by decide +kernel
theorem dX2_pathMinimum_51 : decode cX2_pathMinimum 51 = .ok (.iload 4, 2) := by decide +kernel
theorem dX2_pathMinimum_53 : decode cX2_pathMinimum 53 = .ok (.invokevirtual 94, 3) := by decide +kernel
theorem dX2_pathMinimum_56 : decode cX2_pathMinimum 56 = .ok (.if_icmp .ge 14, 3) := by decide +kernel
theorem dX2_pathMinimum_59 : decode cX2_pathMinimum 59 = .ok (.aload_n 0, 1) := by decide +kernel
theorem dX2_pathMinimum_60 : decode cX2_pathMinimum 60 = .ok (.getfield 25, 3) := by decide +kernel
theorem dX2_pathMinimum_63 : decode cX2_pathMinimum 63 = .ok (.iload 5, 2) := by decide +kernel
theorem dX2_pathMinimum_65 : decode cX2_pathMinimum 65 = .ok (.invokevirtual 88, 3) := by decide +kernel
theorem dX2_pathMinimum_68 : decode cX2_pathMinimum 68 = .ok (.istore 4, 2) := by decide +kernel
theorem dX2_pathMinimum_70 : decode cX2_pathMinimum 70 = .ok (.iinc 5 1, 3) := by decide +kernel
theorem dX2_pathMinimum_73 : decode cX2_pathMinimum 73 = .ok (.goto (-54), 3) := by decide +kernel
theorem dX2_pathMinimum_76 : decode cX2_pathMinimum 76 = .ok (.iload 4, 2) := by decide +kernel
theorem dX2_pathMinimum_78 : decode cX2_pathMinimum 78 = .ok (.ireturn, 1) := by decide +kernel
set_option maxRecDepth 20000 in
theorem ggX2_pathMaximum_X2_tracePath : GoodIn wsX2_pathMaximum wsX2_tracePath := goodIn_r _ [7, 1, 2, 8, 9, 10, 6, 11, 12, 13, 14, 15, 16, 17, 18, 19, 20, 21, 22, 23, 24, 25, 26, 27, 28, 29, 30, 31, 32, 33, 34, 35, 36, 37, 38, 39, 40, 41, 42, 43, 44, 45, 46, 47, 48, 49, 50, 51, 52, 53, 54, 55, 56, 57, 58, 59, 60, 61, 62, 63, 64, 65, 66, 67, 68, 69, 83, 84, 85, 86, 87, 88, 89, 90, 91, 92] (by decide +kernel) (by decide +kernel)
set_option maxRecDepth 20000 in
theorem gX2_pathMaximum_X2_tracePath : GoodIn wsX2_pathMaximum (wsV RX2 82 RX2 yX2_tracePath wsX2_tracePath) := goodIn_app (goodIn_of _ (by decide +kernel)) ggX2_pathMaximum_X2_tracePath
set_option maxRecDepth 20000 in
theorem ggX2_pathMaximum_X1_length : GoodIn wsX2_pathMaximum wsX1_length := goodIn_r _ [73, 43, 91, 92] (by decide +kernel) (by decide +kernel)
set_option maxRecDepth 20000 in
theorem gX2_pathMaximum_X1_length : GoodIn wsX2_pathMaximum (wsV RX2 91 RX1 yX1_length wsX1_length) := goodIn_app (goodIn_of _ (by decide +kernel)) ggX2_pathMaximum_X1_length
set_option maxRecDepth 20000 in
theorem ggX2_pathMaximum_X1_vertexAt : GoodIn wsX2_pathMaximum wsX1_vertexAt := goodIn_r _ [77, 56, 66, 67, 68, 41, 69, 43, 91, 92] (by decide +kernel) (by decide +kernel)
set_option maxRecDepth 20000 in
theorem gX2_pathMaximum_X1_vertexAt : GoodIn wsX2_pathMaximum (wsV RX2 88 RX1 yX1_vertexAt wsX1_vertexAt) := goodIn_app (goodIn_of _ (by decide +kernel)) ggX2_pathMaximum_X1_vertexAt
set_option maxRecDepth 20000 in
theorem ggX2_pathMaximum_X0_valueOf : GoodIn wsX2_pathMaximum wsX0_valueOf := goodIn_r _ [81, 82, 33, 15, 16, 17, 18, 19, 87, 88, 89, 90] (by decide +kernel) (by decide +kernel)
set_option maxRecDepth 20000 in
theorem gX2_pathMaximum_X0_valueOf : GoodIn wsX2_pathMaximum (wsV RX2 94 RX0 yX0_valueOf wsX0_valueOf) := goodIn_app (goodIn_of _ (by decide +kernel)) ggX2_pathMaximum_X0_valueOf
theorem dX2_pathMaximum_0 : decode cX2_pathMaximum 0 = .ok (.aload_n 0, 1) := by decide +kernel
theorem dX2_pathMaximum_1 : decode cX2_pathMaximum 1 = .ok (.iload_n 1, 1) := by decide +kernel
theorem dX2_pathMaximum_2 : decode cX2_pathMaximum 2 = .ok (.iload_n 2, 1) := by decide +kernel
theorem dX2_pathMaximum_3 : decode cX2_pathMaximum 3 = .ok (.invokevirtual 82, 3) := by decide +kernel
theorem dX2_pathMaximum_6 : decode cX2_pathMaximum 6 = .ok (.istore_n 3, 1) := by decide +kernel
theorem dX2_pathMaximum_7 : decode cX2_pathMaximum 7 = .ok (.iload_n 3, 1) := by decide +kernel
theorem dX2_pathMaximum_8 : decode cX2_pathMaximum 8 = .ok (.ifCond .eq 5, 3) := by decide +kernel
theorem dX2_pathMaximum_11 : decode cX2_pathMaximum 11 = .ok (.iload_n 3, 1) := by decide +kernel
theorem dX2_pathMaximum_12 : decode cX2_pathMaximum 12 = .ok (.ireturn, 1) := by decide +kernel
theorem dX2_pathMaximum_13 : decode cX2_pathMaximum 13 = .ok (.iload_n 1, 1) := by decide +kernel
theorem dX2_pathMaximum_14 : decode cX2_pathMaximum 14 = .ok (.istore 4, 2) := by decide +kernel
theorem dX2_pathMaximum_16 : decode cX2_pathMaximum 16 = .ok (.iconst 1, 1) := by decide +kernel
theorem dX2_pathMaximum_17 : decode cX2_pathMaximum 17 = .ok (.istore 5, 2) := by decide +kernel
theorem dX2_pathMaximum_19 : decode cX2_pathMaximum 19 = .ok (.iload 5, 2) := by decide +kernel
theorem dX2_pathMaximum_21 : decode cX2_pathMaximum 21 = .ok (.aload_n 0, 1) := by decide +kernel
theorem dX2_pathMaximum_22 : decode cX2_pathMaximum 22 = .ok (.getfield 25, 3) := by decide +kernel
theorem dX2_pathMaximum_25 : decode cX2_pathMaximum 25 = .ok (.invokevirtual 91, 3) := by decide +kernel
theorem dX2_pathMaximum_28 : decode cX2_pathMaximum 28 = .ok (.if_icmp .ge 48, 3) := by decide +kernel
theorem dX2_pathMaximum_31 : decode cX2_pathMaximum 31 = .ok (.aload_n 0, 1) := by decide +kernel
theorem dX2_pathMaximum_32 : decode cX2_pathMaximum 32 = .ok (.getfield 10, 3) := by decide +kernel
theorem dX2_pathMaximum_35 : decode cX2_pathMaximum 35 = .ok (.aload_n 0, 1) := by decide +kernel
theorem dX2_pathMaximum_36 : decode cX2_pathMaximum 36 = .ok (.getfield 25, 3) := by decide +kernel
theorem dX2_pathMaximum_39 : decode cX2_pathMaximum 39 = .ok (.iload 5, 2) := by decide +kernel
theorem dX2_pathMaximum_41 : decode cX2_pathMaximum 41 = .ok (.invokevirtual 88, 3) := by decide +kernel
theorem dX2_pathMaximum_44 : decode cX2_pathMaximum 44 = .ok (.invokevirtual 94, 3) := by decide +kernel
theorem dX2_pathMaximum_47 : decode cX2_pathMaximum 47 = .ok (.aload_n 0, 1) := by decide +kernel
theorem dX2_pathMaximum_48 : decode cX2_pathMaximum 48 = .ok (.getfield 10, 3) := by decide +kernel
theorem dX2_pathMaximum_51 : decode cX2_pathMaximum 51 = .ok (.iload 4, 2) := by decide +kernel
theorem dX2_pathMaximum_53 : decode cX2_pathMaximum 53 = .ok (.invokevirtual 94, 3) := by decide +kernel
theorem dX2_pathMaximum_56 : decode cX2_pathMaximum 56 = .ok (.if_icmp .le 14, 3) := by decide +kernel
theorem dX2_pathMaximum_59 : decode cX2_pathMaximum 59 = .ok (.aload_n 0, 1) := by decide +kernel
theorem dX2_pathMaximum_60 : decode cX2_pathMaximum 60 = .ok (.getfield 25, 3) := by decide +kernel
theorem dX2_pathMaximum_63 : decode cX2_pathMaximum 63 = .ok (.iload 5, 2) := by decide +kernel
theorem dX2_pathMaximum_65 : decode cX2_pathMaximum 65 = .ok (.invokevirtual 88, 3) := by decide +kernel
theorem dX2_pathMaximum_68 : decode cX2_pathMaximum 68 = .ok (.istore 4, 2) := by decide +kernel
theorem dX2_pathMaximum_70 : decode cX2_pathMaximum 70 = .ok (.iinc 5 1, 3) := by decide +kernel
theorem dX2_pathMaximum_73 : decode cX2_pathMaximum 73 = .ok (.goto (-54), 3) := by decide +kernel
theorem dX2_pathMaximum_76 : decode cX2_pathMaximum 76 = .ok (.iload 4, 2) := by decide +kernel
theorem dX2_pathMaximum_78 : decode cX2_pathMaximum 78 = .ok (.ireturn, 1) := by decide +kernel
set_option maxRecDepth 20000 in
theorem ggX2_reach_X2_tracePath : GoodIn wsX2_reach wsX2_tracePath := goodIn_r _ [8, 1, 2, 9, 10, 11, 7, 12, 13, 14, 15, 16, 17, 18, 19, 20, 21, 22, 23, 24, 25, 26, 27, 28, 29, 30, 31, 32, 33, 34, 35, 36, 37, 38, 39, 40, 41, 42, 43, 44, 45, 46, 47, 48, 49, 50, 51, 52, 53, 54, 55, 56, 57, 58, 59, 60, 61, 62, 63, 64, 65, 66, 67, 68, 69, 70, 84, 85, 86, 87, 88, 89, 90, 91, 92, 93] (by decide +kernel) (by decide +kernel)
set_option maxRecDepth 20000 in
theorem gX2_reach_X2_tracePath : GoodIn wsX2_reach (wsV RX2 82 RX2 yX2_tracePath wsX2_tracePath) := goodIn_app (goodIn_of _ (by decide +kernel)) ggX2_reach_X2_tracePath
set_option maxRecDepth 20000 in
theorem ggX2_reach_X1_length : GoodIn wsX2_reach wsX1_length := goodIn_r _ [74, 44, 92, 93] (by decide +kernel) (by decide +kernel)
set_option maxRecDepth 20000 in
theorem gX2_reach_X1_length : GoodIn wsX2_reach (wsV RX2 91 RX1 yX1_length wsX1_length) := goodIn_app (goodIn_of _ (by decide +kernel)) ggX2_reach_X1_length
set_option maxRecDepth 20000 in
theorem ggX2_reach_X1_vertexAt : GoodIn wsX2_reach wsX1_vertexAt := goodIn_r _ [78, 57, 67, 68, 69, 42, 70, 44, 92, 93] (by decide +kernel) (by decide +kernel)
set_option maxRecDepth 20000 in
theorem gX2_reach_X1_vertexAt : GoodIn wsX2_reach (wsV RX2 88 RX1 yX1_vertexAt wsX1_vertexAt) := goodIn_app (goodIn_of _ (by decide +kernel)) ggX2_reach_X1_vertexAt
set_option maxRecDepth 20000 in
theorem ggX2_reach_X0_valueOf : GoodIn wsX2_reach wsX0_valueOf := goodIn_r _ [82, 83, 34, 16, 17, 18, 19, 20, 88, 89, 90, 91] (by decide +kernel) (by decide +kernel)
set_option maxRecDepth 20000 in
theorem gX2_reach_X0_valueOf : GoodIn wsX2_reach (wsV RX2 94 RX0 yX0_valueOf wsX0_valueOf) := goodIn_app (goodIn_of _ (by decide +kernel)) ggX2_reach_X0_valueOf
theorem dX2_reach_0 : decode cX2_reach 0 = .ok (.aload_n 0, 1) := by decide +kernel
theorem dX2_reach_1 : decode cX2_reach 1 = .ok (.iload_n 1, 1) := by decide +kernel
theorem dX2_reach_2 : decode cX2_reach 2 = .ok (.iload_n 2, 1) := by decide +kernel
theorem dX2_reach_3 : decode cX2_reach 3 = .ok (.invokevirtual 82, 3) := by decide +kernel
theorem dX2_reach_6 : decode cX2_reach 6 = .ok (.istore 4, 2) := by decide +kernel
theorem dX2_reach_8 : decode cX2_reach 8 = .ok (.iload 4, 2) := by decide +kernel
theorem dX2_reach_10 : decode cX2_reach 10 = .ok (.ifCond .eq 6, 3) := by decide +kernel
theorem dX2_reach_13 : decode cX2_reach 13 = .ok (.iload 4, 2) := by decide +kernel
theorem dX2_reach_15 : decode cX2_reach 15 = .ok (.ireturn, 1) := by decide +kernel
theorem dX2_reach_16 : decode cX2_reach 16 = .ok (.iconst 0, 1) := by decide +kernel
theorem dX2_reach_17 : decode cX2_reach 17 = .ok (.istore 5, 2) := by decide +kernel
theorem dX2_reach_19 : decode cX2_reach 19 = .ok (.iconst 0, 1) := by decide +kernel
theorem dX2_reach_20 : decode cX2_reach 20 = .ok (.istore 6, 2) := by decide +kernel
theorem dX2_reach_22 : decode cX2_reach 22 = .ok (.iload 6, 2) := by decide +kernel
theorem dX2_reach_24 : decode cX2_reach 24 = .ok (.aload_n 0, 1) := by decide +kernel
theorem dX2_reach_25 : decode cX2_reach 25 = .ok (.getfield 25, 3) := by decide +kernel
theorem dX2_reach_28 : decode cX2_reach 28 = .ok (.invokevirtual 91, 3) := by decide +kernel
theorem dX2_reach_31 : decode cX2_reach 31 = .ok (.if_icmp .ge 46, 3) := by decide +kernel
theorem dX2_reach_34 : decode cX2_reach 34 = .ok (.iload 5, 2) := by decide +kernel
theorem dX2_reach_36 : decode cX2_reach 36 = .ok (.aload_n 0, 1) := by decide +kernel
theorem dX2_reach_37 : decode cX2_reach 37 = .ok (.getfield 10, 3) := by decide +kernel
theorem dX2_reach_40 : decode cX2_reach 40 = .ok (.aload_n 0, 1) := by decide +kernel
theorem dX2_reach_41 : decode cX2_reach 41 = .ok (.getfield 25, 3) := by decide +kernel
theorem dX2_reach_44 : decode cX2_reach 44 = .ok (.iload 6, 2) := by decide +kernel
theorem dX2_reach_46 : decode cX2_reach 46 = .ok (.invokevirtual 88, 3) := by decide +kernel
theorem dX2_reach_49 : decode cX2_reach 49 = .ok (.invokevirtual 94, 3) := by decide +kernel
theorem dX2_reach_52 : decode cX2_reach 52 = .ok (.iadd, 1) := by decide +kernel
theorem dX2_reach_53 : decode cX2_reach 53 = .ok (.istore 5, 2) := by decide +kernel
theorem dX2_reach_55 : decode cX2_reach 55 = .ok (.iload 5, 2) := by decide +kernel
theorem dX2_reach_57 : decode cX2_reach 57 = .ok (.iload_n 3, 1) := by decide +kernel
theorem dX2_reach_58 : decode cX2_reach 58 = .ok (.if_icmp .lt 13, 3) := by decide +kernel
theorem dX2_reach_61 : decode cX2_reach 61 = .ok (.aload_n 0, 1) := by decide +kernel
theorem dX2_reach_62 : decode cX2_reach 62 = .ok (.getfield 25, 3) := by decide +kernel
theorem dX2_reach_65 : decode cX2_reach 65 = .ok (.iload 6, 2) := by decide +kernel
theorem dX2_reach_67 : decode cX2_reach 67 = .ok (.invokevirtual 88, 3) := by decide +kernel
theorem dX2_reach_70 : decode cX2_reach 70 = .ok (.ireturn, 1) := by decide +kernel
theorem dX2_reach_71 : decode cX2_reach 71 = .ok (.iinc 6 1, 3) := by decide +kernel
theorem dX2_reach_74 : decode cX2_reach 74 = .ok (.goto (-52), 3) := by decide +kernel
theorem dX2_reach_77 : decode cX2_reach 77 = .ok (.ldc 59, 2) := by decide +kernel
theorem dX2_reach_79 : decode cX2_reach 79 = .ok (.ireturn, 1) := by decide +kernel
set_option maxRecDepth 20000 in
theorem ggX2_addOnPath_X2_tracePath : GoodIn wsX2_addOnPath wsX2_tracePath := goodIn_r _ [9, 2, 3, 10, 11, 12, 8, 13, 14, 15, 16, 17, 18, 19, 20, 21, 22, 23, 24, 25, 26, 27, 28, 29, 30, 31, 32, 33, 34, 35, 36, 37, 38, 39, 40, 41, 42, 43, 44, 45, 46, 47, 48, 49, 50, 51, 52, 53, 54, 55, 56, 57, 58, 59, 60, 61, 62, 63, 64, 65, 66, 67, 68, 69, 70, 71, 94, 95, 96, 97, 98, 99, 100, 101, 102, 103] (by decide +kernel) (by decide +kernel)
set_option maxRecDepth 20000 in
theorem gX2_addOnPath_X2_tracePath : GoodIn wsX2_addOnPath (wsV RX2 82 RX2 yX2_tracePath wsX2_tracePath) := goodIn_app (goodIn_of _ (by decide +kernel)) ggX2_addOnPath_X2_tracePath
set_option maxRecDepth 20000 in
theorem ggX2_addOnPath_X2_isValue : GoodIn wsX2_addOnPath wsX2_isValue := goodIn_r _ [74, 75, 76] (by decide +kernel) (by decide +kernel)
set_option maxRecDepth 20000 in
theorem gX2_addOnPath_X2_isValue : GoodIn wsX2_addOnPath (va_wsS RX2 97 yX2_isValue wsX2_isValue) := goodIn_app (goodIn_of _ (by decide +kernel)) ggX2_addOnPath_X2_isValue
set_option maxRecDepth 20000 in
theorem ggX2_addOnPath_X1_length : GoodIn wsX2_addOnPath wsX1_length := goodIn_r _ [80, 45, 102, 103] (by decide +kernel) (by decide +kernel)
set_option maxRecDepth 20000 in
theorem gX2_addOnPath_X1_length : GoodIn wsX2_addOnPath (wsV RX2 91 RX1 yX1_length wsX1_length) := goodIn_app (goodIn_of _ (by decide +kernel)) ggX2_addOnPath_X1_length
set_option maxRecDepth 20000 in
theorem ggX2_addOnPath_X1_vertexAt : GoodIn wsX2_addOnPath wsX1_vertexAt := goodIn_r _ [84, 58, 68, 69, 70, 43, 71, 45, 102, 103] (by decide +kernel) (by decide +kernel)
set_option maxRecDepth 20000 in
theorem gX2_addOnPath_X1_vertexAt : GoodIn wsX2_addOnPath (wsV RX2 88 RX1 yX1_vertexAt wsX1_vertexAt) := goodIn_app (goodIn_of _ (by decide +kernel)) ggX2_addOnPath_X1_vertexAt
set_option maxRecDepth 20000 in
theorem ggX2_addOnPath_X0_valueOf : GoodIn wsX2_addOnPath wsX0_valueOf := goodIn_r _ [88, 89, 35, 17, 18, 19, 20, 21, 98, 99, 100, 101] (by decide +kernel) (by decide +kernel)
set_option maxRecDepth 20000 in
theorem gX2_addOnPath_X0_valueOf : GoodIn wsX2_addOnPath (wsV RX2 94 RX0 yX0_valueOf wsX0_valueOf) := goodIn_app (goodIn_of _ (by decide +kernel)) ggX2_addOnPath_X0_valueOf
set_option maxRecDepth 20000 in
theorem ggX2_addOnPath_X0_putValue : GoodIn wsX2_addOnPath wsX0_putValue := goodIn_r _ [93, 89, 35, 17, 18, 19, 20, 21, 98, 99, 100, 101] (by decide +kernel) (by decide +kernel)
set_option maxRecDepth 20000 in
theorem gX2_addOnPath_X0_putValue : GoodIn wsX2_addOnPath (wsV RX2 101 RX0 yX0_putValue wsX0_putValue) := goodIn_app (goodIn_of _ (by decide +kernel)) ggX2_addOnPath_X0_putValue
theorem dX2_addOnPath_0 : decode cX2_addOnPath 0 = .ok (.aload_n 0, 1) := by decide +kernel
theorem dX2_addOnPath_1 : decode cX2_addOnPath 1 = .ok (.iload_n 1, 1) := by decide +kernel
theorem dX2_addOnPath_2 : decode cX2_addOnPath 2 = .ok (.iload_n 2, 1) := by decide +kernel
theorem dX2_addOnPath_3 : decode cX2_addOnPath 3 = .ok (.invokevirtual 82, 3) := by decide +kernel
theorem dX2_addOnPath_6 : decode cX2_addOnPath 6 = .ok (.istore 4, 2) := by decide +kernel
theorem dX2_addOnPath_8 : decode cX2_addOnPath 8 = .ok (.iload 4, 2) := by decide +kernel
theorem dX2_addOnPath_10 : decode cX2_addOnPath 10 = .ok (.ifCond .eq 6, 3) := by decide +kernel
theorem dX2_addOnPath_13 : decode cX2_addOnPath 13 = .ok (.iload 4, 2) := by decide +kernel
theorem dX2_addOnPath_15 : decode cX2_addOnPath 15 = .ok (.ireturn, 1) := by decide +kernel
theorem dX2_addOnPath_16 : decode cX2_addOnPath 16 = .ok (.iload_n 3, 1) := by decide +kernel
theorem dX2_addOnPath_17 : decode cX2_addOnPath 17 = .ok (.invokestatic 97, 3) := by decide +kernel
theorem dX2_addOnPath_20 : decode cX2_addOnPath 20 = .ok (.ifCond .ne 6, 3) := by decide +kernel
theorem dX2_addOnPath_23 : decode cX2_addOnPath 23 = .ok (.ldc 33, 2) := by decide +kernel
theorem dX2_addOnPath_25 : decode cX2_addOnPath 25 = .ok (.ireturn, 1) := by decide +kernel
theorem dX2_addOnPath_26 : decode cX2_addOnPath 26 = .ok (.iconst 0, 1) := by decide +kernel
theorem dX2_addOnPath_27 : decode cX2_addOnPath 27 = .ok (.istore 5, 2) := by decide +kernel
theorem dX2_addOnPath_29 : decode cX2_addOnPath 29 = .ok (.iload 5, 2) := by decide +kernel
theorem dX2_addOnPath_31 : decode cX2_addOnPath 31 = .ok (.aload_n 0, 1) := by decide +kernel
theorem dX2_addOnPath_32 : decode cX2_addOnPath 32 = .ok (.getfield 25, 3) := by decide +kernel
theorem dX2_addOnPath_35 : decode cX2_addOnPath 35 = .ok (.invokevirtual 91, 3) := by decide +kernel
theorem dX2_addOnPath_38 : decode cX2_addOnPath 38 = .ok (.if_icmp .ge 36, 3) := by decide +kernel
theorem dX2_addOnPath_41 : decode cX2_addOnPath 41 = .ok (.aload_n 0, 1) := by decide +kernel
theorem dX2_addOnPath_42 : decode cX2_addOnPath 42 = .ok (.getfield 10, 3) := by decide +kernel
theorem dX2_addOnPath_45 : decode cX2_addOnPath 45 = .ok (.aload_n 0, 1) := by decide +kernel
theorem dX2_addOnPath_46 : decode cX2_addOnPath 46 = .ok (.getfield 25, 3) := by decide +kernel
theorem dX2_addOnPath_49 : decode cX2_addOnPath 49 = .ok (.iload 5, 2) := by decide +kernel
theorem dX2_addOnPath_51 : decode cX2_addOnPath 51 = .ok (.invokevirtual 88, 3) := by decide +kernel
theorem dX2_addOnPath_54 : decode cX2_addOnPath 54 = .ok (.invokevirtual 94, 3) := by decide +kernel
theorem dX2_addOnPath_57 : decode cX2_addOnPath 57 = .ok (.iload_n 3, 1) := by decide +kernel
theorem dX2_addOnPath_58 : decode cX2_addOnPath 58 = .ok (.iadd, 1) := by decide +kernel
theorem dX2_addOnPath_59 : decode cX2_addOnPath 59 = .ok (.invokestatic 97, 3) := by decide +kernel
theorem dX2_addOnPath_62 : decode cX2_addOnPath 62 = .ok (.ifCond .ne 6, 3) := by decide +kernel
theorem dX2_addOnPath_65 : decode cX2_addOnPath 65 = .ok (.ldc 100, 2) := by decide +kernel
theorem dX2_addOnPath_67 : decode cX2_addOnPath 67 = .ok (.ireturn, 1) := by decide +kernel
theorem dX2_addOnPath_68 : decode cX2_addOnPath 68 = .ok (.iinc 5 1, 3) := by decide +kernel
theorem dX2_addOnPath_71 : decode cX2_addOnPath 71 = .ok (.goto (-42), 3) := by decide +kernel
theorem dX2_addOnPath_74 : decode cX2_addOnPath 74 = .ok (.iconst 0, 1) := by decide +kernel
theorem dX2_addOnPath_75 : decode cX2_addOnPath 75 = .ok (.istore 5, 2) := by decide +kernel
theorem dX2_addOnPath_77 : decode cX2_addOnPath 77 = .ok (.iload 5, 2) := by decide +kernel
theorem dX2_addOnPath_79 : decode cX2_addOnPath 79 = .ok (.aload_n 0, 1) := by decide +kernel
theorem dX2_addOnPath_80 : decode cX2_addOnPath 80 = .ok (.getfield 25, 3) := by decide +kernel
theorem dX2_addOnPath_83 : decode cX2_addOnPath 83 = .ok (.invokevirtual 91, 3) := by decide +kernel
theorem dX2_addOnPath_86 : decode cX2_addOnPath 86 = .ok (.if_icmp .ge 40, 3) := by decide +kernel
theorem dX2_addOnPath_89 : decode cX2_addOnPath 89 = .ok (.aload_n 0, 1) := by decide +kernel
theorem dX2_addOnPath_90 : decode cX2_addOnPath 90 = .ok (.getfield 25, 3) := by decide +kernel
theorem dX2_addOnPath_93 : decode cX2_addOnPath 93 = .ok (.iload 5, 2) := by decide +kernel
theorem dX2_addOnPath_95 : decode cX2_addOnPath 95 = .ok (.invokevirtual 88, 3) := by decide +kernel
theorem dX2_addOnPath_98 : decode cX2_addOnPath 98 = .ok (.istore 6, 2) := by decide +kernel
theorem dX2_addOnPath_100 : decode cX2_addOnPath 100 = .ok (.aload_n 0, 1) := by decide +kernel
theorem dX2_addOnPath_101 : decode cX2_addOnPath 101 = .ok (.getfield 10, 3) := by decide +kernel
theorem dX2_addOnPath_104 : decode cX2_addOnPath 104 = .ok (.iload 6, 2) := by decide +kernel
theorem dX2_addOnPath_106 : decode cX2_addOnPath 106 = .ok (.aload_n 0, 1) := by decide +kernel
theorem dX2_addOnPath_107 : decode cX2_addOnPath 107 = .ok (.getfield 10, 3) := by decide +kernel
theorem dX2_addOnPath_110 : decode cX2_addOnPath 110 = .ok (.iload 6, 2) := by decide +kernel
theorem dX2_addOnPath_112 : decode cX2_addOnPath 112 = .ok (.invokevirtual 94, 3) := by decide +kernel
theorem dX2_addOnPath_115 : decode cX2_addOnPath 115 = .ok (.iload_n 3, 1) := by decide +kernel
theorem dX2_addOnPath_116 : decode cX2_addOnPath 116 = .ok (.iadd, 1) := by decide +kernel
theorem dX2_addOnPath_117 : decode cX2_addOnPath 117 = .ok (.invokevirtual 101, 3) := by decide +kernel
theorem dX2_addOnPath_120 : decode cX2_addOnPath 120 = .ok (.iinc 5 1, 3) := by decide +kernel
theorem dX2_addOnPath_123 : decode cX2_addOnPath 123 = .ok (.goto (-46), 3) := by decide +kernel
theorem dX2_addOnPath_126 : decode cX2_addOnPath 126 = .ok (.aload_n 0, 1) := by decide +kernel
theorem dX2_addOnPath_127 : decode cX2_addOnPath 127 = .ok (.getfield 25, 3) := by decide +kernel
theorem dX2_addOnPath_130 : decode cX2_addOnPath 130 = .ok (.invokevirtual 91, 3) := by decide +kernel
theorem dX2_addOnPath_133 : decode cX2_addOnPath 133 = .ok (.ireturn, 1) := by decide +kernel
set_option maxRecDepth 20000 in
theorem ggX2_setOnPath_X2_tracePath : GoodIn wsX2_setOnPath wsX2_tracePath := goodIn_r _ [8, 2, 3, 9, 10, 11, 7, 12, 13, 14, 15, 16, 17, 18, 19, 20, 21, 22, 23, 24, 25, 26, 27, 28, 29, 30, 31, 32, 33, 34, 35, 36, 37, 38, 39, 40, 41, 42, 43, 44, 45, 46, 47, 48, 49, 50, 51, 52, 53, 54, 55, 56, 57, 58, 59, 60, 61, 62, 63, 64, 65, 66, 67, 68, 69, 70, 89, 90, 91, 92, 93, 94, 95, 96, 97, 98] (by decide +kernel) (by decide +kernel)
set_option maxRecDepth 20000 in
theorem gX2_setOnPath_X2_tracePath : GoodIn wsX2_setOnPath (wsV RX2 82 RX2 yX2_tracePath wsX2_tracePath) := goodIn_app (goodIn_of _ (by decide +kernel)) ggX2_setOnPath_X2_tracePath
set_option maxRecDepth 20000 in
theorem ggX2_setOnPath_X2_isValue : GoodIn wsX2_setOnPath wsX2_isValue := goodIn_r _ [73, 74, 75] (by decide +kernel) (by decide +kernel)
set_option maxRecDepth 20000 in
theorem gX2_setOnPath_X2_isValue : GoodIn wsX2_setOnPath (va_wsS RX2 97 yX2_isValue wsX2_isValue) := goodIn_app (goodIn_of _ (by decide +kernel)) ggX2_setOnPath_X2_isValue
set_option maxRecDepth 20000 in
theorem ggX2_setOnPath_X1_length : GoodIn wsX2_setOnPath wsX1_length := goodIn_r _ [79, 44, 97, 98] (by decide +kernel) (by decide +kernel)
set_option maxRecDepth 20000 in
theorem gX2_setOnPath_X1_length : GoodIn wsX2_setOnPath (wsV RX2 91 RX1 yX1_length wsX1_length) := goodIn_app (goodIn_of _ (by decide +kernel)) ggX2_setOnPath_X1_length
set_option maxRecDepth 20000 in
theorem ggX2_setOnPath_X1_vertexAt : GoodIn wsX2_setOnPath wsX1_vertexAt := goodIn_r _ [83, 57, 67, 68, 69, 42, 70, 44, 97, 98] (by decide +kernel) (by decide +kernel)
set_option maxRecDepth 20000 in
theorem gX2_setOnPath_X1_vertexAt : GoodIn wsX2_setOnPath (wsV RX2 88 RX1 yX1_vertexAt wsX1_vertexAt) := goodIn_app (goodIn_of _ (by decide +kernel)) ggX2_setOnPath_X1_vertexAt
set_option maxRecDepth 20000 in
theorem ggX2_setOnPath_X0_putValue : GoodIn wsX2_setOnPath wsX0_putValue := goodIn_r _ [87, 88, 34, 16, 17, 18, 19, 20, 93, 94, 95, 96] (by decide +kernel) (by decide +kernel)
set_option maxRecDepth 20000 in
theorem gX2_setOnPath_X0_putValue : GoodIn wsX2_setOnPath (wsV RX2 101 RX0 yX0_putValue wsX0_putValue) := goodIn_app (goodIn_of _ (by decide +kernel)) ggX2_setOnPath_X0_putValue
theorem dX2_setOnPath_0 : decode cX2_setOnPath 0 = .ok (.aload_n 0, 1) := by decide +kernel
theorem dX2_setOnPath_1 : decode cX2_setOnPath 1 = .ok (.iload_n 1, 1) := by decide +kernel
theorem dX2_setOnPath_2 : decode cX2_setOnPath 2 = .ok (.iload_n 2, 1) := by decide +kernel
theorem dX2_setOnPath_3 : decode cX2_setOnPath 3 = .ok (.invokevirtual 82, 3) := by decide +kernel
theorem dX2_setOnPath_6 : decode cX2_setOnPath 6 = .ok (.istore 4, 2) := by decide +kernel
theorem dX2_setOnPath_8 : decode cX2_setOnPath 8 = .ok (.iload 4, 2) := by decide +kernel
theorem dX2_setOnPath_10 : decode cX2_setOnPath 10 = .ok (.ifCond .eq 6, 3) := by decide +kernel
theorem dX2_setOnPath_13 : decode cX2_setOnPath 13 = .ok (.iload 4, 2) := by decide +kernel
theorem dX2_setOnPath_15 : decode cX2_setOnPath 15 = .ok (.ireturn, 1) := by decide +kernel
theorem dX2_setOnPath_16 : decode cX2_setOnPath 16 = .ok (.iload_n 3, 1) := by decide +kernel
theorem dX2_setOnPath_17 : decode cX2_setOnPath 17 = .ok (.invokestatic 97, 3) := by decide +kernel
theorem dX2_setOnPath_20 : decode cX2_setOnPath 20 = .ok (.ifCond .ne 6, 3) := by decide +kernel
theorem dX2_setOnPath_23 : decode cX2_setOnPath 23 = .ok (.ldc 33, 2) := by decide +kernel
theorem dX2_setOnPath_25 : decode cX2_setOnPath 25 = .ok (.ireturn, 1) := by decide +kernel
theorem dX2_setOnPath_26 : decode cX2_setOnPath 26 = .ok (.iconst 0, 1) := by decide +kernel
theorem dX2_setOnPath_27 : decode cX2_setOnPath 27 = .ok (.istore 5, 2) := by decide +kernel
theorem dX2_setOnPath_29 : decode cX2_setOnPath 29 = .ok (.iload 5, 2) := by decide +kernel
theorem dX2_setOnPath_31 : decode cX2_setOnPath 31 = .ok (.aload_n 0, 1) := by decide +kernel
theorem dX2_setOnPath_32 : decode cX2_setOnPath 32 = .ok (.getfield 25, 3) := by decide +kernel
theorem dX2_setOnPath_35 : decode cX2_setOnPath 35 = .ok (.invokevirtual 91, 3) := by decide +kernel
theorem dX2_setOnPath_38 : decode cX2_setOnPath 38 = .ok (.if_icmp .ge 26, 3) := by decide +kernel
theorem dX2_setOnPath_41 : decode cX2_setOnPath 41 = .ok (.aload_n 0, 1) := by decide +kernel
theorem dX2_setOnPath_42 : decode cX2_setOnPath 42 = .ok (.getfield 10, 3) := by decide +kernel
theorem dX2_setOnPath_45 : decode cX2_setOnPath 45 = .ok (.aload_n 0, 1) := by decide +kernel
theorem dX2_setOnPath_46 : decode cX2_setOnPath 46 = .ok (.getfield 25, 3) := by decide +kernel
theorem dX2_setOnPath_49 : decode cX2_setOnPath 49 = .ok (.iload 5, 2) := by decide +kernel
theorem dX2_setOnPath_51 : decode cX2_setOnPath 51 = .ok (.invokevirtual 88, 3) := by decide +kernel
theorem dX2_setOnPath_54 : decode cX2_setOnPath 54 = .ok (.iload_n 3, 1) := by decide +kernel
theorem dX2_setOnPath_55 : decode cX2_setOnPath 55 = .ok (.invokevirtual 101, 3) := by decide +kernel
theorem dX2_setOnPath_58 : decode cX2_setOnPath 58 = .ok (.iinc 5 1, 3) := by decide +kernel
theorem dX2_setOnPath_61 : decode cX2_setOnPath 61 = .ok (.goto (-32), 3) := by decide +kernel
theorem dX2_setOnPath_64 : decode cX2_setOnPath 64 = .ok (.aload_n 0, 1) := by decide +kernel
theorem dX2_setOnPath_65 : decode cX2_setOnPath 65 = .ok (.getfield 25, 3) := by decide +kernel
theorem dX2_setOnPath_68 : decode cX2_setOnPath 68 = .ok (.invokevirtual 91, 3) := by decide +kernel
theorem dX2_setOnPath_71 : decode cX2_setOnPath 71 = .ok (.ireturn, 1) := by decide +kernel
set_option maxRecDepth 20000 in
theorem ggX2_reverseValues_X2_tracePath : GoodIn wsX2_reverseValues wsX2_tracePath := goodIn_r _ [7, 1, 2, 8, 9, 10, 6, 11, 12, 13, 14, 15, 16, 17, 18, 19, 20, 21, 22, 23, 24, 25, 26, 27, 28, 29, 30, 31, 32, 33, 34, 35, 36, 37, 38, 39, 40, 41, 42, 43, 44, 45, 46, 47, 48, 49, 50, 51, 52, 53, 54, 55, 56, 57, 58, 59, 60, 61, 62, 63, 64, 65, 66, 67, 68, 69, 91, 92, 93, 94, 95, 96, 97, 98, 99, 100] (by decide +kernel) (by decide +kernel)
set_option maxRecDepth 20000 in
theorem gX2_reverseValues_X2_tracePath : GoodIn wsX2_reverseValues (wsV RX2 82 RX2 yX2_tracePath wsX2_tracePath) := goodIn_app (goodIn_of _ (by decide +kernel)) ggX2_reverseValues_X2_tracePath
set_option maxRecDepth 20000 in
theorem ggX2_reverseValues_X1_length : GoodIn wsX2_reverseValues wsX1_length := goodIn_r _ [73, 43, 99, 100] (by decide +kernel) (by decide +kernel)
set_option maxRecDepth 20000 in
theorem gX2_reverseValues_X1_length : GoodIn wsX2_reverseValues (wsV RX2 91 RX1 yX1_length wsX1_length) := goodIn_app (goodIn_of _ (by decide +kernel)) ggX2_reverseValues_X1_length
set_option maxRecDepth 20000 in
theorem ggX2_reverseValues_X1_vertexAt : GoodIn wsX2_reverseValues wsX1_vertexAt := goodIn_r _ [77, 56, 66, 67, 68, 41, 69, 43, 99, 100] (by decide +kernel) (by decide +kernel)
set_option maxRecDepth 20000 in
theorem gX2_reverseValues_X1_vertexAt : GoodIn wsX2_reverseValues (wsV RX2 88 RX1 yX1_vertexAt wsX1_vertexAt) := goodIn_app (goodIn_of _ (by decide +kernel)) ggX2_reverseValues_X1_vertexAt
set_option maxRecDepth 20000 in
theorem ggX2_reverseValues_X0_swapValues : GoodIn wsX2_reverseValues wsX0_swapValues := goodIn_r _ [81, 82, 83, 84, 17, 85, 86, 33, 15, 16, 18, 19, 87, 88, 89, 90, 95, 96, 97, 98] (by decide +kernel) (by decide +kernel)
set_option maxRecDepth 20000 in
theorem gX2_reverseValues_X0_swapValues : GoodIn wsX2_reverseValues (wsV RX2 104 RX0 yX0_swapValues wsX0_swapValues) := goodIn_app (goodIn_of _ (by decide +kernel)) ggX2_reverseValues_X0_swapValues
theorem dX2_reverseValues_0 : decode cX2_reverseValues 0 = .ok (.aload_n 0, 1) := by decide +kernel
theorem dX2_reverseValues_1 : decode cX2_reverseValues 1 = .ok (.iload_n 1, 1) := by decide +kernel
theorem dX2_reverseValues_2 : decode cX2_reverseValues 2 = .ok (.iload_n 2, 1) := by decide +kernel
theorem dX2_reverseValues_3 : decode cX2_reverseValues 3 = .ok (.invokevirtual 82, 3) := by decide +kernel
theorem dX2_reverseValues_6 : decode cX2_reverseValues 6 = .ok (.istore_n 3, 1) := by decide +kernel
theorem dX2_reverseValues_7 : decode cX2_reverseValues 7 = .ok (.iload_n 3, 1) := by decide +kernel
theorem dX2_reverseValues_8 : decode cX2_reverseValues 8 = .ok (.ifCond .eq 5, 3) := by decide +kernel
theorem dX2_reverseValues_11 : decode cX2_reverseValues 11 = .ok (.iload_n 3, 1) := by decide +kernel
theorem dX2_reverseValues_12 : decode cX2_reverseValues 12 = .ok (.ireturn, 1) := by decide +kernel
theorem dX2_reverseValues_13 : decode cX2_reverseValues 13 = .ok (.iconst 0, 1) := by decide +kernel
theorem dX2_reverseValues_14 : decode cX2_reverseValues 14 = .ok (.istore 4, 2) := by decide +kernel
theorem dX2_reverseValues_16 : decode cX2_reverseValues 16 = .ok (.aload_n 0, 1) := by decide +kernel
theorem dX2_reverseValues_17 : decode cX2_reverseValues 17 = .ok (.getfield 25, 3) := by decide +kernel
theorem dX2_reverseValues_20 : decode cX2_reverseValues 20 = .ok (.invokevirtual 91, 3) := by decide +kernel
theorem dX2_reverseValues_23 : decode cX2_reverseValues 23 = .ok (.iconst 1, 1) := by decide +kernel
theorem dX2_reverseValues_24 : decode cX2_reverseValues 24 = .ok (.isub, 1) := by decide +kernel
theorem dX2_reverseValues_25 : decode cX2_reverseValues 25 = .ok (.istore 5, 2) := by decide +kernel
theorem dX2_reverseValues_27 : decode cX2_reverseValues 27 = .ok (.iload 5, 2) := by decide +kernel
theorem dX2_reverseValues_29 : decode cX2_reverseValues 29 = .ok (.iload 4, 2) := by decide +kernel
theorem dX2_reverseValues_31 : decode cX2_reverseValues 31 = .ok (.if_icmp .le 37, 3) := by decide +kernel
theorem dX2_reverseValues_34 : decode cX2_reverseValues 34 = .ok (.aload_n 0, 1) := by decide +kernel
theorem dX2_reverseValues_35 : decode cX2_reverseValues 35 = .ok (.getfield 10, 3) := by decide +kernel
theorem dX2_reverseValues_38 : decode cX2_reverseValues 38 = .ok (.aload_n 0, 1) := by decide +kernel
theorem dX2_reverseValues_39 : decode cX2_reverseValues 39 = .ok (.getfield 25, 3) := by decide +kernel
theorem dX2_reverseValues_42 : decode cX2_reverseValues 42 = .ok (.iload 4, 2) := by decide +kernel
theorem dX2_reverseValues_44 : decode cX2_reverseValues 44 = .ok (.invokevirtual 88, 3) := by decide +kernel
theorem dX2_reverseValues_47 : decode cX2_reverseValues 47 = .ok (.aload_n 0, 1) := by decide +kernel
theorem dX2_reverseValues_48 : decode cX2_reverseValues 48 = .ok (.getfield 25, 3) := by decide +kernel
theorem dX2_reverseValues_51 : decode cX2_reverseValues 51 = .ok (.iload 5, 2) := by decide +kernel
theorem dX2_reverseValues_53 : decode cX2_reverseValues 53 = .ok (.invokevirtual 88, 3) := by decide +kernel
theorem dX2_reverseValues_56 : decode cX2_reverseValues 56 = .ok (.invokevirtual 104, 3) := by decide +kernel
theorem dX2_reverseValues_59 : decode cX2_reverseValues 59 = .ok (.iinc 4 1, 3) := by decide +kernel
theorem dX2_reverseValues_62 : decode cX2_reverseValues 62 = .ok (.iinc 5 (-1), 3) := by decide +kernel
theorem dX2_reverseValues_65 : decode cX2_reverseValues 65 = .ok (.goto (-38), 3) := by decide +kernel
theorem dX2_reverseValues_68 : decode cX2_reverseValues 68 = .ok (.aload_n 0, 1) := by decide +kernel
theorem dX2_reverseValues_69 : decode cX2_reverseValues 69 = .ok (.getfield 25, 3) := by decide +kernel
theorem dX2_reverseValues_72 : decode cX2_reverseValues 72 = .ok (.invokevirtual 91, 3) := by decide +kernel
theorem dX2_reverseValues_75 : decode cX2_reverseValues 75 = .ok (.ireturn, 1) := by decide +kernel
set_option maxRecDepth 20000 in
theorem ggX2_subtreeSize_X0_has : GoodIn wsX2_subtreeSize wsX0_has := goodIn_r _ [7, 8, 35, 36, 37, 38] (by decide +kernel) (by decide +kernel)
set_option maxRecDepth 20000 in
theorem gX2_subtreeSize_X0_has : GoodIn wsX2_subtreeSize (wsV RX2 38 RX0 yX0_has wsX0_has) := goodIn_app (goodIn_of _ (by decide +kernel)) ggX2_subtreeSize_X0_has
set_option maxRecDepth 20000 in
theorem ggX2_subtreeSize_X0_countBelow : GoodIn wsX2_subtreeSize wsX0_countBelow := goodIn_r _ [12, 8, 13, 14, 15, 6, 16, 17, 18, 19, 20, 21, 22, 23, 24, 25, 26, 4, 5, 7, 27, 28, 29, 30, 35, 36, 37, 38] (by decide +kernel) (by decide +kernel)
set_option maxRecDepth 20000 in
theorem gX2_subtreeSize_X0_countBelow : GoodIn wsX2_subtreeSize (wsV RX2 56 RX0 yX0_countBelow wsX0_countBelow) := goodIn_app (goodIn_of _ (by decide +kernel)) ggX2_subtreeSize_X0_countBelow
theorem dX2_subtreeSize_0 : decode cX2_subtreeSize 0 = .ok (.aload_n 0, 1) := by decide +kernel
theorem dX2_subtreeSize_1 : decode cX2_subtreeSize 1 = .ok (.getfield 10, 3) := by decide +kernel
theorem dX2_subtreeSize_4 : decode cX2_subtreeSize 4 = .ok (.iload_n 1, 1) := by decide +kernel
theorem dX2_subtreeSize_5 : decode cX2_subtreeSize 5 = .ok (.invokevirtual 38, 3) := by decide +kernel
theorem dX2_subtreeSize_8 : decode cX2_subtreeSize 8 = .ok (.ifCond .eq 14, 3) := by decide +kernel
theorem dX2_subtreeSize_11 : decode cX2_subtreeSize 11 = .ok (.aload_n 0, 1) := by decide +kernel
theorem dX2_subtreeSize_12 : decode cX2_subtreeSize 12 = .ok (.getfield 10, 3) := by decide +kernel
theorem dX2_subtreeSize_15 : decode cX2_subtreeSize 15 = .ok (.iload_n 1, 1) := by decide +kernel
theorem dX2_subtreeSize_16 : decode cX2_subtreeSize 16 = .ok (.invokevirtual 56, 3) := by decide +kernel
theorem dX2_subtreeSize_19 : decode cX2_subtreeSize 19 = .ok (.goto 5, 3) := by decide +kernel
theorem dX2_subtreeSize_22 : decode cX2_subtreeSize 22 = .ok (.ldc 42, 2) := by decide +kernel
theorem dX2_subtreeSize_24 : decode cX2_subtreeSize 24 = .ok (.ireturn, 1) := by decide +kernel
set_option maxRecDepth 20000 in
theorem ggX2_subtreeSum_X0_has : GoodIn wsX2_subtreeSum wsX0_has := goodIn_r _ [7, 8, 40, 41, 42, 43] (by decide +kernel) (by decide +kernel)
set_option maxRecDepth 20000 in
theorem gX2_subtreeSum_X0_has : GoodIn wsX2_subtreeSum (wsV RX2 38 RX0 yX0_has wsX0_has) := goodIn_app (goodIn_of _ (by decide +kernel)) ggX2_subtreeSum_X0_has
set_option maxRecDepth 20000 in
theorem ggX2_subtreeSum_X0_size : GoodIn wsX2_subtreeSum wsX0_size := goodIn_r _ [12, 8, 40, 41, 42, 43] (by decide +kernel) (by decide +kernel)
set_option maxRecDepth 20000 in
theorem gX2_subtreeSum_X0_size : GoodIn wsX2_subtreeSum (wsV RX2 34 RX0 yX0_size wsX0_size) := goodIn_app (goodIn_of _ (by decide +kernel)) ggX2_subtreeSum_X0_size
set_option maxRecDepth 20000 in
theorem ggX2_subtreeSum_X0_isBelow : GoodIn wsX2_subtreeSum wsX0_isBelow := goodIn_r _ [16, 17, 18, 19, 6, 20, 21, 22, 23, 24, 25, 26, 4, 5, 7, 8, 27, 28, 29, 30, 40, 41, 42, 43] (by decide +kernel) (by decide +kernel)
set_option maxRecDepth 20000 in
theorem gX2_subtreeSum_X0_isBelow : GoodIn wsX2_subtreeSum (wsV RX2 107 RX0 yX0_isBelow wsX0_isBelow) := goodIn_app (goodIn_of _ (by decide +kernel)) ggX2_subtreeSum_X0_isBelow
set_option maxRecDepth 20000 in
theorem ggX2_subtreeSum_X0_valueOf : GoodIn wsX2_subtreeSum wsX0_valueOf := goodIn_r _ [34, 35, 26, 4, 5, 6, 7, 8, 40, 41, 42, 43] (by decide +kernel) (by decide +kernel)
set_option maxRecDepth 20000 in
theorem gX2_subtreeSum_X0_valueOf : GoodIn wsX2_subtreeSum (wsV RX2 94 RX0 yX0_valueOf wsX0_valueOf) := goodIn_app (goodIn_of _ (by decide +kernel)) ggX2_subtreeSum_X0_valueOf
theorem dX2_subtreeSum_0 : decode cX2_subtreeSum 0 = .ok (.aload_n 0, 1) := by decide +kernel
theorem dX2_subtreeSum_1 : decode cX2_subtreeSum 1 = .ok (.getfield 10, 3) := by decide +kernel
theorem dX2_subtreeSum_4 : decode cX2_subtreeSum 4 = .ok (.iload_n 1, 1) := by decide +kernel
theorem dX2_subtreeSum_5 : decode cX2_subtreeSum 5 = .ok (.invokevirtual 38, 3) := by decide +kernel
theorem dX2_subtreeSum_8 : decode cX2_subtreeSum 8 = .ok (.ifCond .ne 6, 3) := by decide +kernel
theorem dX2_subtreeSum_11 : decode cX2_subtreeSum 11 = .ok (.ldc 42, 2) := by decide +kernel
theorem dX2_subtreeSum_13 : decode cX2_subtreeSum 13 = .ok (.ireturn, 1) := by decide +kernel
theorem dX2_subtreeSum_14 : decode cX2_subtreeSum 14 = .ok (.iconst 0, 1) := by decide +kernel
theorem dX2_subtreeSum_15 : decode cX2_subtreeSum 15 = .ok (.istore_n 2, 1) := by decide +kernel
theorem dX2_subtreeSum_16 : decode cX2_subtreeSum 16 = .ok (.iconst 0, 1) := by decide +kernel
theorem dX2_subtreeSum_17 : decode cX2_subtreeSum 17 = .ok (.istore_n 3, 1) := by decide +kernel
theorem dX2_subtreeSum_18 : decode cX2_subtreeSum 18 = .ok (.iload_n 3, 1) := by decide +kernel
theorem dX2_subtreeSum_19 : decode cX2_subtreeSum 19 = .ok (.aload_n 0, 1) := by decide +kernel
theorem dX2_subtreeSum_20 : decode cX2_subtreeSum 20 = .ok (.getfield 10, 3) := by decide +kernel
theorem dX2_subtreeSum_23 : decode cX2_subtreeSum 23 = .ok (.invokevirtual 34, 3) := by decide +kernel
theorem dX2_subtreeSum_26 : decode cX2_subtreeSum 26 = .ok (.if_icmp .ge 32, 3) := by decide +kernel
theorem dX2_subtreeSum_29 : decode cX2_subtreeSum 29 = .ok (.aload_n 0, 1) := by decide +kernel
theorem dX2_subtreeSum_30 : decode cX2_subtreeSum 30 = .ok (.getfield 10, 3) := by decide +kernel
theorem dX2_subtreeSum_33 : decode cX2_subtreeSum 33 = .ok (.iload_n 3, 1) := by decide +kernel
theorem dX2_subtreeSum_34 : decode cX2_subtreeSum 34 = .ok (.iload_n 1, 1) := by decide +kernel
theorem dX2_subtreeSum_35 : decode cX2_subtreeSum 35 = .ok (.invokevirtual 107, 3) := by decide +kernel
theorem dX2_subtreeSum_38 : decode cX2_subtreeSum 38 = .ok (.ifCond .eq 14, 3) := by decide +kernel
theorem dX2_subtreeSum_41 : decode cX2_subtreeSum 41 = .ok (.iload_n 2, 1) := by decide +kernel
theorem dX2_subtreeSum_42 : decode cX2_subtreeSum 42 = .ok (.aload_n 0, 1) := by decide +kernel
theorem dX2_subtreeSum_43 : decode cX2_subtreeSum 43 = .ok (.getfield 10, 3) := by decide +kernel
theorem dX2_subtreeSum_46 : decode cX2_subtreeSum 46 = .ok (.iload_n 3, 1) := by decide +kernel
theorem dX2_subtreeSum_47 : decode cX2_subtreeSum 47 = .ok (.invokevirtual 94, 3) := by decide +kernel
theorem dX2_subtreeSum_50 : decode cX2_subtreeSum 50 = .ok (.iadd, 1) := by decide +kernel
theorem dX2_subtreeSum_51 : decode cX2_subtreeSum 51 = .ok (.istore_n 2, 1) := by decide +kernel
theorem dX2_subtreeSum_52 : decode cX2_subtreeSum 52 = .ok (.iinc 3 1, 3) := by decide +kernel
theorem dX2_subtreeSum_55 : decode cX2_subtreeSum 55 = .ok (.goto (-37), 3) := by decide +kernel
theorem dX2_subtreeSum_58 : decode cX2_subtreeSum 58 = .ok (.iload_n 2, 1) := by decide +kernel
theorem dX2_subtreeSum_59 : decode cX2_subtreeSum 59 = .ok (.ireturn, 1) := by decide +kernel
set_option maxRecDepth 20000 in
theorem ggX2_addInSubtree_X0_has : GoodIn wsX2_addInSubtree wsX0_has := goodIn_r _ [9, 10, 57, 58, 59, 60] (by decide +kernel) (by decide +kernel)
set_option maxRecDepth 20000 in
theorem gX2_addInSubtree_X0_has : GoodIn wsX2_addInSubtree (wsV RX2 38 RX0 yX0_has wsX0_has) := goodIn_app (goodIn_of _ (by decide +kernel)) ggX2_addInSubtree_X0_has
set_option maxRecDepth 20000 in
theorem ggX2_addInSubtree_X2_isValue : GoodIn wsX2_addInSubtree wsX2_isValue := goodIn_r _ [14, 15, 16] (by decide +kernel) (by decide +kernel)
set_option maxRecDepth 20000 in
theorem gX2_addInSubtree_X2_isValue : GoodIn wsX2_addInSubtree (va_wsS RX2 97 yX2_isValue wsX2_isValue) := goodIn_app (goodIn_of _ (by decide +kernel)) ggX2_addInSubtree_X2_isValue
set_option maxRecDepth 20000 in
theorem ggX2_addInSubtree_X0_size : GoodIn wsX2_addInSubtree wsX0_size := goodIn_r _ [20, 10, 57, 58, 59, 60] (by decide +kernel) (by decide +kernel)
set_option maxRecDepth 20000 in
theorem gX2_addInSubtree_X0_size : GoodIn wsX2_addInSubtree (wsV RX2 34 RX0 yX0_size wsX0_size) := goodIn_app (goodIn_of _ (by decide +kernel)) ggX2_addInSubtree_X0_size
set_option maxRecDepth 20000 in
theorem ggX2_addInSubtree_X0_isBelow : GoodIn wsX2_addInSubtree wsX0_isBelow := goodIn_r _ [24, 25, 26, 27, 8, 28, 29, 30, 31, 32, 33, 34, 6, 7, 9, 10, 35, 36, 37, 38, 57, 58, 59, 60] (by decide +kernel) (by decide +kernel)
set_option maxRecDepth 20000 in
theorem gX2_addInSubtree_X0_isBelow : GoodIn wsX2_addInSubtree (wsV RX2 107 RX0 yX0_isBelow wsX0_isBelow) := goodIn_app (goodIn_of _ (by decide +kernel)) ggX2_addInSubtree_X0_isBelow
set_option maxRecDepth 20000 in
theorem ggX2_addInSubtree_X0_valueOf : GoodIn wsX2_addInSubtree wsX0_valueOf := goodIn_r _ [42, 43, 34, 6, 7, 8, 9, 10, 57, 58, 59, 60] (by decide +kernel) (by decide +kernel)
set_option maxRecDepth 20000 in
theorem gX2_addInSubtree_X0_valueOf : GoodIn wsX2_addInSubtree (wsV RX2 94 RX0 yX0_valueOf wsX0_valueOf) := goodIn_app (goodIn_of _ (by decide +kernel)) ggX2_addInSubtree_X0_valueOf
set_option maxRecDepth 20000 in
theorem ggX2_addInSubtree_X0_putValue : GoodIn wsX2_addInSubtree wsX0_putValue := goodIn_r _ [47, 43, 34, 6, 7, 8, 9, 10, 57, 58, 59, 60] (by decide +kernel) (by decide +kernel)
set_option maxRecDepth 20000 in
theorem gX2_addInSubtree_X0_putValue : GoodIn wsX2_addInSubtree (wsV RX2 101 RX0 yX0_putValue wsX0_putValue) := goodIn_app (goodIn_of _ (by decide +kernel)) ggX2_addInSubtree_X0_putValue
set_option maxRecDepth 20000 in
theorem ggX2_addInSubtree_X0_countBelow : GoodIn wsX2_addInSubtree wsX0_countBelow := goodIn_r _ [51, 10, 52, 22, 23, 8, 24, 25, 26, 27, 28, 29, 30, 31, 32, 33, 34, 6, 7, 9, 35, 36, 37, 38, 57, 58, 59, 60] (by decide +kernel) (by decide +kernel)
set_option maxRecDepth 20000 in
theorem gX2_addInSubtree_X0_countBelow : GoodIn wsX2_addInSubtree (wsV RX2 56 RX0 yX0_countBelow wsX0_countBelow) := goodIn_app (goodIn_of _ (by decide +kernel)) ggX2_addInSubtree_X0_countBelow
theorem dX2_addInSubtree_0 : decode cX2_addInSubtree 0 = .ok (.aload_n 0, 1) := by decide +kernel
theorem dX2_addInSubtree_1 : decode cX2_addInSubtree 1 = .ok (.getfield 10, 3) := by decide +kernel
theorem dX2_addInSubtree_4 : decode cX2_addInSubtree 4 = .ok (.iload_n 1, 1) := by decide +kernel
theorem dX2_addInSubtree_5 : decode cX2_addInSubtree 5 = .ok (.invokevirtual 38, 3) := by decide +kernel
theorem dX2_addInSubtree_8 : decode cX2_addInSubtree 8 = .ok (.ifCond .ne 6, 3) := by decide +kernel
theorem dX2_addInSubtree_11 : decode cX2_addInSubtree 11 = .ok (.ldc 42, 2) := by decide +kernel
theorem dX2_addInSubtree_13 : decode cX2_addInSubtree 13 = .ok (.ireturn, 1) := by decide +kernel
theorem dX2_addInSubtree_14 : decode cX2_addInSubtree 14 = .ok (.iload_n 2, 1) := by decide +kernel
theorem dX2_addInSubtree_15 : decode cX2_addInSubtree 15 = .ok (.invokestatic 97, 3) := by decide +kernel
theorem dX2_addInSubtree_18 : decode cX2_addInSubtree 18 = .ok (.ifCond .ne 6, 3) := by decide +kernel
theorem dX2_addInSubtree_21 : decode cX2_addInSubtree 21 = .ok (.ldc 33, 2) := by decide +kernel
theorem dX2_addInSubtree_23 : decode cX2_addInSubtree 23 = .ok (.ireturn, 1) := by decide +kernel
theorem dX2_addInSubtree_24 : decode cX2_addInSubtree 24 = .ok (.iconst 0, 1) := by decide +kernel
theorem dX2_addInSubtree_25 : decode cX2_addInSubtree 25 = .ok (.istore_n 3, 1) := by decide +kernel
theorem dX2_addInSubtree_26 : decode cX2_addInSubtree 26 = .ok (.iload_n 3, 1) := by decide +kernel
theorem dX2_addInSubtree_27 : decode cX2_addInSubtree 27 = .ok (.aload_n 0, 1) := by decide +kernel
theorem dX2_addInSubtree_28 : decode cX2_addInSubtree 28 = .ok (.getfield 10, 3) := by decide +kernel
theorem dX2_addInSubtree_31 : decode cX2_addInSubtree 31 = .ok (.invokevirtual 34, 3) := by decide +kernel
theorem dX2_addInSubtree_34 : decode cX2_addInSubtree 34 = .ok (.if_icmp .ge 40, 3) := by decide +kernel
theorem dX2_addInSubtree_37 : decode cX2_addInSubtree 37 = .ok (.aload_n 0, 1) := by decide +kernel
theorem dX2_addInSubtree_38 : decode cX2_addInSubtree 38 = .ok (.getfield 10, 3) := by decide +kernel
theorem dX2_addInSubtree_41 : decode cX2_addInSubtree 41 = .ok (.iload_n 3, 1) := by decide +kernel
theorem dX2_addInSubtree_42 : decode cX2_addInSubtree 42 = .ok (.iload_n 1, 1) := by decide +kernel
theorem dX2_addInSubtree_43 : decode cX2_addInSubtree 43 = .ok (.invokevirtual 107, 3) := by decide +kernel
theorem dX2_addInSubtree_46 : decode cX2_addInSubtree 46 = .ok (.ifCond .eq 22, 3) := by decide +kernel
theorem dX2_addInSubtree_49 : decode cX2_addInSubtree 49 = .ok (.aload_n 0, 1) := by decide +kernel
theorem dX2_addInSubtree_50 : decode cX2_addInSubtree 50 = .ok (.getfield 10, 3) := by decide +kernel
theorem dX2_addInSubtree_53 : decode cX2_addInSubtree 53 = .ok (.iload_n 3, 1) := by decide +kernel
theorem dX2_addInSubtree_54 : decode cX2_addInSubtree 54 = .ok (.invokevirtual 94, 3) := by decide +kernel
theorem dX2_addInSubtree_57 : decode cX2_addInSubtree 57 = .ok (.iload_n 2, 1) := by decide +kernel
theorem dX2_addInSubtree_58 : decode cX2_addInSubtree 58 = .ok (.iadd, 1) := by decide +kernel
theorem dX2_addInSubtree_59 : decode cX2_addInSubtree 59 = .ok (.invokestatic 97, 3) := by decide +kernel
theorem dX2_addInSubtree_62 : decode cX2_addInSubtree 62 = .ok (.ifCond .ne 6, 3) := by decide +kernel
theorem dX2_addInSubtree_65 : decode cX2_addInSubtree 65 = .ok (.ldc 100, 2) := by decide +kernel
theorem dX2_addInSubtree_67 : decode cX2_addInSubtree 67 = .ok (.ireturn, 1) := by decide +kernel
theorem dX2_addInSubtree_68 : decode cX2_addInSubtree 68 = .ok (.iinc 3 1, 3) := by decide +kernel
theorem dX2_addInSubtree_71 : decode cX2_addInSubtree 71 = .ok (.goto (-45), 3) := by decide +kernel
theorem dX2_addInSubtree_74 : decode cX2_addInSubtree 74 = .ok (.iconst 0, 1) := by decide +kernel
theorem dX2_addInSubtree_75 : decode cX2_addInSubtree 75 = .ok (.istore_n 3, 1) := by decide +kernel
theorem dX2_addInSubtree_76 : decode cX2_addInSubtree 76 = .ok (.iload_n 3, 1) := by decide +kernel
theorem dX2_addInSubtree_77 : decode cX2_addInSubtree 77 = .ok (.aload_n 0, 1) := by decide +kernel
theorem dX2_addInSubtree_78 : decode cX2_addInSubtree 78 = .ok (.getfield 10, 3) := by decide +kernel
theorem dX2_addInSubtree_81 : decode cX2_addInSubtree 81 = .ok (.invokevirtual 34, 3) := by decide +kernel
theorem dX2_addInSubtree_84 : decode cX2_addInSubtree 84 = .ok (.if_icmp .ge 39, 3) := by decide +kernel
theorem dX2_addInSubtree_87 : decode cX2_addInSubtree 87 = .ok (.aload_n 0, 1) := by decide +kernel
theorem dX2_addInSubtree_88 : decode cX2_addInSubtree 88 = .ok (.getfield 10, 3) := by decide +kernel
theorem dX2_addInSubtree_91 : decode cX2_addInSubtree 91 = .ok (.iload_n 3, 1) := by decide +kernel
theorem dX2_addInSubtree_92 : decode cX2_addInSubtree 92 = .ok (.iload_n 1, 1) := by decide +kernel
theorem dX2_addInSubtree_93 : decode cX2_addInSubtree 93 = .ok (.invokevirtual 107, 3) := by decide +kernel
theorem dX2_addInSubtree_96 : decode cX2_addInSubtree 96 = .ok (.ifCond .eq 21, 3) := by decide +kernel
theorem dX2_addInSubtree_99 : decode cX2_addInSubtree 99 = .ok (.aload_n 0, 1) := by decide +kernel
theorem dX2_addInSubtree_100 : decode cX2_addInSubtree 100 = .ok (.getfield 10, 3) := by decide +kernel
theorem dX2_addInSubtree_103 : decode cX2_addInSubtree 103 = .ok (.iload_n 3, 1) := by decide +kernel
theorem dX2_addInSubtree_104 : decode cX2_addInSubtree 104 = .ok (.aload_n 0, 1) := by decide +kernel
theorem dX2_addInSubtree_105 : decode cX2_addInSubtree 105 = .ok (.getfield 10, 3) := by decide +kernel
theorem dX2_addInSubtree_108 : decode cX2_addInSubtree 108 = .ok (.iload_n 3, 1) := by decide +kernel
theorem dX2_addInSubtree_109 : decode cX2_addInSubtree 109 = .ok (.invokevirtual 94, 3) := by decide +kernel
theorem dX2_addInSubtree_112 : decode cX2_addInSubtree 112 = .ok (.iload_n 2, 1) := by decide +kernel
theorem dX2_addInSubtree_113 : decode cX2_addInSubtree 113 = .ok (.iadd, 1) := by decide +kernel
theorem dX2_addInSubtree_114 : decode cX2_addInSubtree 114 = .ok (.invokevirtual 101, 3) := by decide +kernel
theorem dX2_addInSubtree_117 : decode cX2_addInSubtree 117 = .ok (.iinc 3 1, 3) := by decide +kernel
theorem dX2_addInSubtree_120 : decode cX2_addInSubtree 120 = .ok (.goto (-44), 3) := by decide +kernel
theorem dX2_addInSubtree_123 : decode cX2_addInSubtree 123 = .ok (.aload_n 0, 1) := by decide +kernel
theorem dX2_addInSubtree_124 : decode cX2_addInSubtree 124 = .ok (.getfield 10, 3) := by decide +kernel
theorem dX2_addInSubtree_127 : decode cX2_addInSubtree 127 = .ok (.iload_n 1, 1) := by decide +kernel
theorem dX2_addInSubtree_128 : decode cX2_addInSubtree 128 = .ok (.invokevirtual 56, 3) := by decide +kernel
theorem dX2_addInSubtree_131 : decode cX2_addInSubtree 131 = .ok (.ireturn, 1) := by decide +kernel
set_option maxRecDepth 20000 in
theorem ggX2_diameter_X0_has : GoodIn wsX2_diameter wsX0_has := goodIn_r _ [7, 8, 44, 45, 46, 47] (by decide +kernel) (by decide +kernel)
set_option maxRecDepth 20000 in
theorem gX2_diameter_X0_has : GoodIn wsX2_diameter (wsV RX2 38 RX0 yX0_has wsX0_has) := goodIn_app (goodIn_of _ (by decide +kernel)) ggX2_diameter_X0_has
set_option maxRecDepth 20000 in
theorem ggX2_diameter_X0_farthestFrom : GoodIn wsX2_diameter wsX0_farthestFrom := goodIn_r _ [12, 8, 13, 14, 15, 6, 16, 17, 18, 19, 20, 21, 22, 23, 24, 25, 26, 4, 5, 7, 27, 28, 29, 30, 31, 32, 33, 34, 35, 36, 37, 38, 44, 45, 46, 47] (by decide +kernel) (by decide +kernel)
set_option maxRecDepth 20000 in
theorem gX2_diameter_X0_farthestFrom : GoodIn wsX2_diameter (wsV RX2 111 RX0 yX0_farthestFrom wsX0_farthestFrom) := goodIn_app (goodIn_of _ (by decide +kernel)) ggX2_diameter_X0_farthestFrom
set_option maxRecDepth 20000 in
theorem ggX2_diameter_X0_edgesBetween : GoodIn wsX2_diameter wsX0_edgesBetween := goodIn_r _ [34, 17, 18, 19, 6, 20, 21, 22, 23, 24, 25, 26, 4, 5, 7, 8, 35, 36, 37, 38, 27, 28, 29, 30, 44, 45, 46, 47] (by decide +kernel) (by decide +kernel)
set_option maxRecDepth 20000 in
theorem gX2_diameter_X0_edgesBetween : GoodIn wsX2_diameter (wsV RX2 79 RX0 yX0_edgesBetween wsX0_edgesBetween) := goodIn_app (goodIn_of _ (by decide +kernel)) ggX2_diameter_X0_edgesBetween
theorem dX2_diameter_0 : decode cX2_diameter 0 = .ok (.aload_n 0, 1) := by decide +kernel
theorem dX2_diameter_1 : decode cX2_diameter 1 = .ok (.getfield 10, 3) := by decide +kernel
theorem dX2_diameter_4 : decode cX2_diameter 4 = .ok (.iload_n 1, 1) := by decide +kernel
theorem dX2_diameter_5 : decode cX2_diameter 5 = .ok (.invokevirtual 38, 3) := by decide +kernel
theorem dX2_diameter_8 : decode cX2_diameter 8 = .ok (.ifCond .ne 6, 3) := by decide +kernel
theorem dX2_diameter_11 : decode cX2_diameter 11 = .ok (.ldc 42, 2) := by decide +kernel
theorem dX2_diameter_13 : decode cX2_diameter 13 = .ok (.ireturn, 1) := by decide +kernel
theorem dX2_diameter_14 : decode cX2_diameter 14 = .ok (.aload_n 0, 1) := by decide +kernel
theorem dX2_diameter_15 : decode cX2_diameter 15 = .ok (.getfield 10, 3) := by decide +kernel
theorem dX2_diameter_18 : decode cX2_diameter 18 = .ok (.iload_n 1, 1) := by decide +kernel
theorem dX2_diameter_19 : decode cX2_diameter 19 = .ok (.invokevirtual 111, 3) := by decide +kernel
theorem dX2_diameter_22 : decode cX2_diameter 22 = .ok (.istore_n 2, 1) := by decide +kernel
theorem dX2_diameter_23 : decode cX2_diameter 23 = .ok (.aload_n 0, 1) := by decide +kernel
theorem dX2_diameter_24 : decode cX2_diameter 24 = .ok (.getfield 10, 3) := by decide +kernel
theorem dX2_diameter_27 : decode cX2_diameter 27 = .ok (.iload_n 2, 1) := by decide +kernel
theorem dX2_diameter_28 : decode cX2_diameter 28 = .ok (.aload_n 0, 1) := by decide +kernel
theorem dX2_diameter_29 : decode cX2_diameter 29 = .ok (.getfield 10, 3) := by decide +kernel
theorem dX2_diameter_32 : decode cX2_diameter 32 = .ok (.iload_n 2, 1) := by decide +kernel
theorem dX2_diameter_33 : decode cX2_diameter 33 = .ok (.invokevirtual 111, 3) := by decide +kernel
theorem dX2_diameter_36 : decode cX2_diameter 36 = .ok (.invokevirtual 79, 3) := by decide +kernel
theorem dX2_diameter_39 : decode cX2_diameter 39 = .ok (.ireturn, 1) := by decide +kernel
set_option maxRecDepth 20000 in
theorem ggX2_setValue_X0_has : GoodIn wsX2_setValue wsX0_has := goodIn_r _ [8, 9, 30, 31, 32, 33] (by decide +kernel) (by decide +kernel)
set_option maxRecDepth 20000 in
theorem gX2_setValue_X0_has : GoodIn wsX2_setValue (wsV RX2 38 RX0 yX0_has wsX0_has) := goodIn_app (goodIn_of _ (by decide +kernel)) ggX2_setValue_X0_has
set_option maxRecDepth 20000 in
theorem ggX2_setValue_X2_isValue : GoodIn wsX2_setValue wsX2_isValue := goodIn_r _ [13, 14, 15] (by decide +kernel) (by decide +kernel)
set_option maxRecDepth 20000 in
theorem gX2_setValue_X2_isValue : GoodIn wsX2_setValue (va_wsS RX2 97 yX2_isValue wsX2_isValue) := goodIn_app (goodIn_of _ (by decide +kernel)) ggX2_setValue_X2_isValue
set_option maxRecDepth 20000 in
theorem ggX2_setValue_X0_valueOf : GoodIn wsX2_setValue wsX0_valueOf := goodIn_r _ [19, 20, 21, 5, 6, 7, 8, 9, 30, 31, 32, 33] (by decide +kernel) (by decide +kernel)
set_option maxRecDepth 20000 in
theorem gX2_setValue_X0_valueOf : GoodIn wsX2_setValue (wsV RX2 94 RX0 yX0_valueOf wsX0_valueOf) := goodIn_app (goodIn_of _ (by decide +kernel)) ggX2_setValue_X0_valueOf
set_option maxRecDepth 20000 in
theorem ggX2_setValue_X0_putValue : GoodIn wsX2_setValue wsX0_putValue := goodIn_r _ [25, 20, 21, 5, 6, 7, 8, 9, 30, 31, 32, 33] (by decide +kernel) (by decide +kernel)
set_option maxRecDepth 20000 in
theorem gX2_setValue_X0_putValue : GoodIn wsX2_setValue (wsV RX2 101 RX0 yX0_putValue wsX0_putValue) := goodIn_app (goodIn_of _ (by decide +kernel)) ggX2_setValue_X0_putValue
theorem dX2_setValue_0 : decode cX2_setValue 0 = .ok (.aload_n 0, 1) := by decide +kernel
theorem dX2_setValue_1 : decode cX2_setValue 1 = .ok (.getfield 10, 3) := by decide +kernel
theorem dX2_setValue_4 : decode cX2_setValue 4 = .ok (.iload_n 1, 1) := by decide +kernel
theorem dX2_setValue_5 : decode cX2_setValue 5 = .ok (.invokevirtual 38, 3) := by decide +kernel
theorem dX2_setValue_8 : decode cX2_setValue 8 = .ok (.ifCond .ne 6, 3) := by decide +kernel
theorem dX2_setValue_11 : decode cX2_setValue 11 = .ok (.ldc 42, 2) := by decide +kernel
theorem dX2_setValue_13 : decode cX2_setValue 13 = .ok (.ireturn, 1) := by decide +kernel
theorem dX2_setValue_14 : decode cX2_setValue 14 = .ok (.iload_n 2, 1) := by decide +kernel
theorem dX2_setValue_15 : decode cX2_setValue 15 = .ok (.invokestatic 97, 3) := by decide +kernel
theorem dX2_setValue_18 : decode cX2_setValue 18 = .ok (.ifCond .ne 6, 3) := by decide +kernel
theorem dX2_setValue_21 : decode cX2_setValue 21 = .ok (.ldc 33, 2) := by decide +kernel
theorem dX2_setValue_23 : decode cX2_setValue 23 = .ok (.ireturn, 1) := by decide +kernel
theorem dX2_setValue_24 : decode cX2_setValue 24 = .ok (.aload_n 0, 1) := by decide +kernel
theorem dX2_setValue_25 : decode cX2_setValue 25 = .ok (.getfield 10, 3) := by decide +kernel
theorem dX2_setValue_28 : decode cX2_setValue 28 = .ok (.iload_n 1, 1) := by decide +kernel
theorem dX2_setValue_29 : decode cX2_setValue 29 = .ok (.invokevirtual 94, 3) := by decide +kernel
theorem dX2_setValue_32 : decode cX2_setValue 32 = .ok (.istore_n 3, 1) := by decide +kernel
theorem dX2_setValue_33 : decode cX2_setValue 33 = .ok (.aload_n 0, 1) := by decide +kernel
theorem dX2_setValue_34 : decode cX2_setValue 34 = .ok (.getfield 10, 3) := by decide +kernel
theorem dX2_setValue_37 : decode cX2_setValue 37 = .ok (.iload_n 1, 1) := by decide +kernel
theorem dX2_setValue_38 : decode cX2_setValue 38 = .ok (.iload_n 2, 1) := by decide +kernel
theorem dX2_setValue_39 : decode cX2_setValue 39 = .ok (.invokevirtual 101, 3) := by decide +kernel
theorem dX2_setValue_42 : decode cX2_setValue 42 = .ok (.iload_n 3, 1) := by decide +kernel
theorem dX2_setValue_43 : decode cX2_setValue 43 = .ok (.ireturn, 1) := by decide +kernel
set_option maxRecDepth 20000 in
theorem ggX2_value_X0_has : GoodIn wsX2_value wsX0_has := goodIn_r _ [7, 8, 19, 20, 21, 22] (by decide +kernel) (by decide +kernel)
set_option maxRecDepth 20000 in
theorem gX2_value_X0_has : GoodIn wsX2_value (wsV RX2 38 RX0 yX0_has wsX0_has) := goodIn_app (goodIn_of _ (by decide +kernel)) ggX2_value_X0_has
set_option maxRecDepth 20000 in
theorem ggX2_value_X0_valueOf : GoodIn wsX2_value wsX0_valueOf := goodIn_r _ [12, 13, 14, 4, 5, 6, 7, 8, 19, 20, 21, 22] (by decide +kernel) (by decide +kernel)
set_option maxRecDepth 20000 in
theorem gX2_value_X0_valueOf : GoodIn wsX2_value (wsV RX2 94 RX0 yX0_valueOf wsX0_valueOf) := goodIn_app (goodIn_of _ (by decide +kernel)) ggX2_value_X0_valueOf
theorem dX2_value_0 : decode cX2_value 0 = .ok (.aload_n 0, 1) := by decide +kernel
theorem dX2_value_1 : decode cX2_value 1 = .ok (.getfield 10, 3) := by decide +kernel
theorem dX2_value_4 : decode cX2_value 4 = .ok (.iload_n 1, 1) := by decide +kernel
theorem dX2_value_5 : decode cX2_value 5 = .ok (.invokevirtual 38, 3) := by decide +kernel
theorem dX2_value_8 : decode cX2_value 8 = .ok (.ifCond .eq 14, 3) := by decide +kernel
theorem dX2_value_11 : decode cX2_value 11 = .ok (.aload_n 0, 1) := by decide +kernel
theorem dX2_value_12 : decode cX2_value 12 = .ok (.getfield 10, 3) := by decide +kernel
theorem dX2_value_15 : decode cX2_value 15 = .ok (.iload_n 1, 1) := by decide +kernel
theorem dX2_value_16 : decode cX2_value 16 = .ok (.invokevirtual 94, 3) := by decide +kernel
theorem dX2_value_19 : decode cX2_value 19 = .ok (.goto 5, 3) := by decide +kernel
theorem dX2_value_22 : decode cX2_value 22 = .ok (.ldc 42, 2) := by decide +kernel
theorem dX2_value_24 : decode cX2_value 24 = .ok (.ireturn, 1) := by decide +kernel
set_option maxRecDepth 20000 in
theorem ggX2_setMark_X0_has : GoodIn wsX2_setMark wsX0_has := goodIn_r _ [7, 8, 23, 24, 25, 26] (by decide +kernel) (by decide +kernel)
set_option maxRecDepth 20000 in
theorem gX2_setMark_X0_has : GoodIn wsX2_setMark (wsV RX2 38 RX0 yX0_has wsX0_has) := goodIn_app (goodIn_of _ (by decide +kernel)) ggX2_setMark_X0_has
set_option maxRecDepth 20000 in
theorem ggX2_setMark_X0_isMarked : GoodIn wsX2_setMark wsX0_isMarked := goodIn_r _ [12, 13, 14, 4, 5, 6, 7, 8, 23, 24, 25, 26] (by decide +kernel) (by decide +kernel)
set_option maxRecDepth 20000 in
theorem gX2_setMark_X0_isMarked : GoodIn wsX2_setMark (wsV RX2 114 RX0 yX0_isMarked wsX0_isMarked) := goodIn_app (goodIn_of _ (by decide +kernel)) ggX2_setMark_X0_isMarked
set_option maxRecDepth 20000 in
theorem ggX2_setMark_X0_putMark : GoodIn wsX2_setMark wsX0_putMark := goodIn_r _ [18, 13, 14, 4, 5, 6, 7, 8, 23, 24, 25, 26] (by decide +kernel) (by decide +kernel)
set_option maxRecDepth 20000 in
theorem gX2_setMark_X0_putMark : GoodIn wsX2_setMark (wsV RX2 117 RX0 yX0_putMark wsX0_putMark) := goodIn_app (goodIn_of _ (by decide +kernel)) ggX2_setMark_X0_putMark
theorem dX2_setMark_0 : decode cX2_setMark 0 = .ok (.aload_n 0, 1) := by decide +kernel
theorem dX2_setMark_1 : decode cX2_setMark 1 = .ok (.getfield 10, 3) := by decide +kernel
theorem dX2_setMark_4 : decode cX2_setMark 4 = .ok (.iload_n 1, 1) := by decide +kernel
theorem dX2_setMark_5 : decode cX2_setMark 5 = .ok (.invokevirtual 38, 3) := by decide +kernel
theorem dX2_setMark_8 : decode cX2_setMark 8 = .ok (.ifCond .ne 6, 3) := by decide +kernel
theorem dX2_setMark_11 : decode cX2_setMark 11 = .ok (.ldc 42, 2) := by decide +kernel
theorem dX2_setMark_13 : decode cX2_setMark 13 = .ok (.ireturn, 1) := by decide +kernel
theorem dX2_setMark_14 : decode cX2_setMark 14 = .ok (.aload_n 0, 1) := by decide +kernel
theorem dX2_setMark_15 : decode cX2_setMark 15 = .ok (.getfield 10, 3) := by decide +kernel
theorem dX2_setMark_18 : decode cX2_setMark 18 = .ok (.iload_n 1, 1) := by decide +kernel
theorem dX2_setMark_19 : decode cX2_setMark 19 = .ok (.invokevirtual 114, 3) := by decide +kernel
theorem dX2_setMark_22 : decode cX2_setMark 22 = .ok (.ifCond .eq 7, 3) := by decide +kernel
theorem dX2_setMark_25 : decode cX2_setMark 25 = .ok (.iconst 1, 1) := by decide +kernel
theorem dX2_setMark_26 : decode cX2_setMark 26 = .ok (.goto 4, 3) := by decide +kernel
theorem dX2_setMark_29 : decode cX2_setMark 29 = .ok (.iconst 0, 1) := by decide +kernel
theorem dX2_setMark_30 : decode cX2_setMark 30 = .ok (.istore_n 3, 1) := by decide +kernel
theorem dX2_setMark_31 : decode cX2_setMark 31 = .ok (.aload_n 0, 1) := by decide +kernel
theorem dX2_setMark_32 : decode cX2_setMark 32 = .ok (.getfield 10, 3) := by decide +kernel
theorem dX2_setMark_35 : decode cX2_setMark 35 = .ok (.iload_n 1, 1) := by decide +kernel
theorem dX2_setMark_36 : decode cX2_setMark 36 = .ok (.iload_n 2, 1) := by decide +kernel
theorem dX2_setMark_37 : decode cX2_setMark 37 = .ok (.invokevirtual 117, 3) := by decide +kernel
theorem dX2_setMark_40 : decode cX2_setMark 40 = .ok (.iload_n 3, 1) := by decide +kernel
theorem dX2_setMark_41 : decode cX2_setMark 41 = .ok (.ireturn, 1) := by decide +kernel
set_option maxRecDepth 20000 in
theorem ggX2_nearestMarked_X0_has : GoodIn wsX2_nearestMarked wsX0_has := goodIn_r _ [8, 9, 49, 50, 51, 52] (by decide +kernel) (by decide +kernel)
set_option maxRecDepth 20000 in
theorem gX2_nearestMarked_X0_has : GoodIn wsX2_nearestMarked (wsV RX2 38 RX0 yX0_has wsX0_has) := goodIn_app (goodIn_of _ (by decide +kernel)) ggX2_nearestMarked_X0_has
set_option maxRecDepth 20000 in
theorem ggX2_nearestMarked_X0_nearestMarkOf : GoodIn wsX2_nearestMarked wsX0_nearestMarkOf := goodIn_r _ [13, 9, 14, 15, 16, 7, 17, 18, 19, 20, 21, 22, 23, 24, 25, 26, 27, 5, 6, 8, 28, 29, 30, 31, 32, 33, 34, 35, 36, 37, 38, 39, 40, 41, 42, 43, 44, 49, 50, 51, 52] (by decide +kernel) (by decide +kernel)
set_option maxRecDepth 20000 in
theorem gX2_nearestMarked_X0_nearestMarkOf : GoodIn wsX2_nearestMarked (wsV RX2 121 RX0 yX0_nearestMarkOf wsX0_nearestMarkOf) := goodIn_app (goodIn_of _ (by decide +kernel)) ggX2_nearestMarked_X0_nearestMarkOf
theorem dX2_nearestMarked_0 : decode cX2_nearestMarked 0 = .ok (.aload_n 0, 1) := by decide +kernel
theorem dX2_nearestMarked_1 : decode cX2_nearestMarked 1 = .ok (.getfield 10, 3) := by decide +kernel
theorem dX2_nearestMarked_4 : decode cX2_nearestMarked 4 = .ok (.iload_n 1, 1) := by decide +kernel
theorem dX2_nearestMarked_5 : decode cX2_nearestMarked 5 = .ok (.invokevirtual 38, 3) := by decide +kernel
theorem dX2_nearestMarked_8 : decode cX2_nearestMarked 8 = .ok (.ifCond .ne 6, 3) := by decide +kernel
theorem dX2_nearestMarked_11 : decode cX2_nearestMarked 11 = .ok (.ldc 42, 2) := by decide +kernel
theorem dX2_nearestMarked_13 : decode cX2_nearestMarked 13 = .ok (.ireturn, 1) := by decide +kernel
theorem dX2_nearestMarked_14 : decode cX2_nearestMarked 14 = .ok (.aload_n 0, 1) := by decide +kernel
theorem dX2_nearestMarked_15 : decode cX2_nearestMarked 15 = .ok (.getfield 10, 3) := by decide +kernel
theorem dX2_nearestMarked_18 : decode cX2_nearestMarked 18 = .ok (.iload_n 1, 1) := by decide +kernel
theorem dX2_nearestMarked_19 : decode cX2_nearestMarked 19 = .ok (.invokevirtual 121, 3) := by decide +kernel
theorem dX2_nearestMarked_22 : decode cX2_nearestMarked 22 = .ok (.istore_n 2, 1) := by decide +kernel
theorem dX2_nearestMarked_23 : decode cX2_nearestMarked 23 = .ok (.iload_n 2, 1) := by decide +kernel
theorem dX2_nearestMarked_24 : decode cX2_nearestMarked 24 = .ok (.iconst (-1), 1) := by decide +kernel
theorem dX2_nearestMarked_25 : decode cX2_nearestMarked 25 = .ok (.if_icmp .ne 8, 3) := by decide +kernel
theorem dX2_nearestMarked_28 : decode cX2_nearestMarked 28 = .ok (.ldc 59, 2) := by decide +kernel
theorem dX2_nearestMarked_30 : decode cX2_nearestMarked 30 = .ok (.goto 4, 3) := by decide +kernel
theorem dX2_nearestMarked_33 : decode cX2_nearestMarked 33 = .ok (.iload_n 2, 1) := by decide +kernel
theorem dX2_nearestMarked_34 : decode cX2_nearestMarked 34 = .ok (.ireturn, 1) := by decide +kernel
set_option maxRecDepth 20000 in
theorem ggX2_save_X2_isSlot : GoodIn wsX2_save wsX2_isSlot := goodIn_r _ [6] (by decide +kernel) (by decide +kernel)
set_option maxRecDepth 20000 in
theorem gX2_save_X2_isSlot : GoodIn wsX2_save (va_wsS RX2 124 yX2_isSlot wsX2_isSlot) := goodIn_app (goodIn_of _ (by decide +kernel)) ggX2_save_X2_isSlot
set_option maxRecDepth 20000 in
theorem ggX2_save_X2_slotAt : GoodIn wsX2_save wsX2_slotAt := goodIn_r _ [10, 11, 12, 26, 27, 28, 29] (by decide +kernel) (by decide +kernel)
set_option maxRecDepth 20000 in
theorem gX2_save_X2_slotAt : GoodIn wsX2_save (wsV RX2 127 RX2 yX2_slotAt wsX2_slotAt) := goodIn_app (goodIn_of _ (by decide +kernel)) ggX2_save_X2_slotAt
set_option maxRecDepth 20000 in
theorem ggX2_save_X0_copyFrom : GoodIn wsX2_save wsX0_copyFrom := goodIn_r _ [17, 18, 19, 20, 21, 30, 31, 32, 33] (by decide +kernel) (by decide +kernel)
set_option maxRecDepth 20000 in
theorem gX2_save_X0_copyFrom : GoodIn wsX2_save (wsV RX2 131 RX0 yX0_copyFrom wsX0_copyFrom) := goodIn_app (goodIn_of _ (by decide +kernel)) ggX2_save_X0_copyFrom
set_option maxRecDepth 20000 in
theorem ggX2_save_X0_size : GoodIn wsX2_save wsX0_size := goodIn_r _ [25, 18, 30, 31, 32, 33] (by decide +kernel) (by decide +kernel)
set_option maxRecDepth 20000 in
theorem gX2_save_X0_size : GoodIn wsX2_save (wsV RX2 34 RX0 yX0_size wsX0_size) := goodIn_app (goodIn_of _ (by decide +kernel)) ggX2_save_X0_size
theorem dX2_save_0 : decode cX2_save 0 = .ok (.iload_n 1, 1) := by decide +kernel
theorem dX2_save_1 : decode cX2_save 1 = .ok (.invokestatic 124, 3) := by decide +kernel
theorem dX2_save_4 : decode cX2_save 4 = .ok (.ifCond .ne 6, 3) := by decide +kernel
theorem dX2_save_7 : decode cX2_save 7 = .ok (.ldc 33, 2) := by decide +kernel
theorem dX2_save_9 : decode cX2_save 9 = .ok (.ireturn, 1) := by decide +kernel
theorem dX2_save_10 : decode cX2_save 10 = .ok (.aload_n 0, 1) := by decide +kernel
theorem dX2_save_11 : decode cX2_save 11 = .ok (.iload_n 1, 1) := by decide +kernel
theorem dX2_save_12 : decode cX2_save 12 = .ok (.invokevirtual 127, 3) := by decide +kernel
theorem dX2_save_15 : decode cX2_save 15 = .ok (.aload_n 0, 1) := by decide +kernel
theorem dX2_save_16 : decode cX2_save 16 = .ok (.getfield 10, 3) := by decide +kernel
theorem dX2_save_19 : decode cX2_save 19 = .ok (.invokevirtual 131, 3) := by decide +kernel
theorem dX2_save_22 : decode cX2_save 22 = .ok (.aload_n 0, 1) := by decide +kernel
theorem dX2_save_23 : decode cX2_save 23 = .ok (.getfield 10, 3) := by decide +kernel
theorem dX2_save_26 : decode cX2_save 26 = .ok (.invokevirtual 34, 3) := by decide +kernel
theorem dX2_save_29 : decode cX2_save 29 = .ok (.ireturn, 1) := by decide +kernel
set_option maxRecDepth 20000 in
theorem ggX2_restore_X2_isSlot : GoodIn wsX2_restore wsX2_isSlot := goodIn_r _ [7] (by decide +kernel) (by decide +kernel)
set_option maxRecDepth 20000 in
theorem gX2_restore_X2_isSlot : GoodIn wsX2_restore (va_wsS RX2 124 yX2_isSlot wsX2_isSlot) := goodIn_app (goodIn_of _ (by decide +kernel)) ggX2_restore_X2_isSlot
set_option maxRecDepth 20000 in
theorem ggX2_restore_X2_slotAt : GoodIn wsX2_restore wsX2_slotAt := goodIn_r _ [11, 12, 13, 27, 28, 29, 30] (by decide +kernel) (by decide +kernel)
set_option maxRecDepth 20000 in
theorem gX2_restore_X2_slotAt : GoodIn wsX2_restore (wsV RX2 127 RX2 yX2_slotAt wsX2_slotAt) := goodIn_app (goodIn_of _ (by decide +kernel)) ggX2_restore_X2_slotAt
set_option maxRecDepth 20000 in
theorem ggX2_restore_X0_size : GoodIn wsX2_restore wsX0_size := goodIn_r _ [18, 19, 31, 32, 33, 34] (by decide +kernel) (by decide +kernel)
set_option maxRecDepth 20000 in
theorem gX2_restore_X0_size : GoodIn wsX2_restore (wsV RX2 34 RX0 yX0_size wsX0_size) := goodIn_app (goodIn_of _ (by decide +kernel)) ggX2_restore_X0_size
set_option maxRecDepth 20000 in
theorem ggX2_restore_X0_copyFrom : GoodIn wsX2_restore wsX0_copyFrom := goodIn_r _ [23, 19, 24, 25, 26, 31, 32, 33, 34] (by decide +kernel) (by decide +kernel)
set_option maxRecDepth 20000 in
theorem gX2_restore_X0_copyFrom : GoodIn wsX2_restore (wsV RX2 131 RX0 yX0_copyFrom wsX0_copyFrom) := goodIn_app (goodIn_of _ (by decide +kernel)) ggX2_restore_X0_copyFrom
theorem dX2_restore_0 : decode cX2_restore 0 = .ok (.iload_n 1, 1) := by decide +kernel
theorem dX2_restore_1 : decode cX2_restore 1 = .ok (.invokestatic 124, 3) := by decide +kernel
theorem dX2_restore_4 : decode cX2_restore 4 = .ok (.ifCond .ne 6, 3) := by decide +kernel
theorem dX2_restore_7 : decode cX2_restore 7 = .ok (.ldc 33, 2) := by decide +kernel
theorem dX2_restore_9 : decode cX2_restore 9 = .ok (.ireturn, 1) := by decide +kernel
theorem dX2_restore_10 : decode cX2_restore 10 = .ok (.aload_n 0, 1) := by decide +kernel
theorem dX2_restore_11 : decode cX2_restore 11 = .ok (.iload_n 1, 1) := by decide +kernel
theorem dX2_restore_12 : decode cX2_restore 12 = .ok (.invokevirtual 127, 3) := by decide +kernel
theorem dX2_restore_15 : decode cX2_restore 15 = .ok (.astore_n 2, 1) := by decide +kernel
theorem dX2_restore_16 : decode cX2_restore 16 = .ok (.aload_n 2, 1) := by decide +kernel
theorem dX2_restore_17 : decode cX2_restore 17 = .ok (.invokevirtual 34, 3) := by decide +kernel
theorem dX2_restore_20 : decode cX2_restore 20 = .ok (.ifCond .ne 6, 3) := by decide +kernel
theorem dX2_restore_23 : decode cX2_restore 23 = .ok (.ldc 135, 2) := by decide +kernel
theorem dX2_restore_25 : decode cX2_restore 25 = .ok (.ireturn, 1) := by decide +kernel
theorem dX2_restore_26 : decode cX2_restore 26 = .ok (.aload_n 0, 1) := by decide +kernel
theorem dX2_restore_27 : decode cX2_restore 27 = .ok (.getfield 10, 3) := by decide +kernel
theorem dX2_restore_30 : decode cX2_restore 30 = .ok (.aload_n 2, 1) := by decide +kernel
theorem dX2_restore_31 : decode cX2_restore 31 = .ok (.invokevirtual 131, 3) := by decide +kernel
theorem dX2_restore_34 : decode cX2_restore 34 = .ok (.aload_n 0, 1) := by decide +kernel
theorem dX2_restore_35 : decode cX2_restore 35 = .ok (.getfield 10, 3) := by decide +kernel
theorem dX2_restore_38 : decode cX2_restore 38 = .ok (.invokevirtual 34, 3) := by decide +kernel
theorem dX2_restore_41 : decode cX2_restore 41 = .ok (.ireturn, 1) := by decide +kernel
theorem dX2_isValue_0 : decode cX2_isValue 0 = .ok (.iload_n 0, 1) := by decide +kernel
theorem dX2_isValue_1 : decode cX2_isValue 1 = .ok (.ldc 136, 2) := by decide +kernel
theorem dX2_isValue_3 : decode cX2_isValue 3 = .ok (.if_icmp .lt 13, 3) := by decide +kernel
theorem dX2_isValue_6 : decode cX2_isValue 6 = .ok (.iload_n 0, 1) := by decide +kernel
theorem dX2_isValue_7 : decode cX2_isValue 7 = .ok (.ldc 137, 2) := by decide +kernel
theorem dX2_isValue_9 : decode cX2_isValue 9 = .ok (.if_icmp .gt 7, 3) := by decide +kernel
theorem dX2_isValue_12 : decode cX2_isValue 12 = .ok (.iconst 1, 1) := by decide +kernel
theorem dX2_isValue_13 : decode cX2_isValue 13 = .ok (.goto 4, 3) := by decide +kernel
theorem dX2_isValue_16 : decode cX2_isValue 16 = .ok (.iconst 0, 1) := by decide +kernel
theorem dX2_isValue_17 : decode cX2_isValue 17 = .ok (.ireturn, 1) := by decide +kernel
theorem dX2_isSlot_0 : decode cX2_isSlot 0 = .ok (.iload_n 0, 1) := by decide +kernel
theorem dX2_isSlot_1 : decode cX2_isSlot 1 = .ok (.ifCond .eq 8, 3) := by decide +kernel
theorem dX2_isSlot_4 : decode cX2_isSlot 4 = .ok (.iload_n 0, 1) := by decide +kernel
theorem dX2_isSlot_5 : decode cX2_isSlot 5 = .ok (.iconst 1, 1) := by decide +kernel
theorem dX2_isSlot_6 : decode cX2_isSlot 6 = .ok (.if_icmp .ne 7, 3) := by decide +kernel
theorem dX2_isSlot_9 : decode cX2_isSlot 9 = .ok (.iconst 1, 1) := by decide +kernel
theorem dX2_isSlot_10 : decode cX2_isSlot 10 = .ok (.goto 4, 3) := by decide +kernel
theorem dX2_isSlot_13 : decode cX2_isSlot 13 = .ok (.iconst 0, 1) := by decide +kernel
theorem dX2_isSlot_14 : decode cX2_isSlot 14 = .ok (.ireturn, 1) := by decide +kernel
theorem dX2_slotAt_0 : decode cX2_slotAt 0 = .ok (.iload_n 1, 1) := by decide +kernel
theorem dX2_slotAt_1 : decode cX2_slotAt 1 = .ok (.ifCond .ne 10, 3) := by decide +kernel
theorem dX2_slotAt_4 : decode cX2_slotAt 4 = .ok (.aload_n 0, 1) := by decide +kernel
theorem dX2_slotAt_5 : decode cX2_slotAt 5 = .ok (.getfield 16, 3) := by decide +kernel
theorem dX2_slotAt_8 : decode cX2_slotAt 8 = .ok (.goto 7, 3) := by decide +kernel
theorem dX2_slotAt_11 : decode cX2_slotAt 11 = .ok (.aload_n 0, 1) := by decide +kernel
theorem dX2_slotAt_12 : decode cX2_slotAt 12 = .ok (.getfield 19, 3) := by decide +kernel
theorem dX2_slotAt_15 : decode cX2_slotAt 15 = .ok (.areturn, 1) := by decide +kernel
set_option maxRecDepth 20000 in
theorem ggX2_pathError_X0_has : GoodIn wsX2_pathError wsX0_has := goodIn_r _ [8, 9, 32, 33, 34, 35] (by decide +kernel) (by decide +kernel)
set_option maxRecDepth 20000 in
theorem gX2_pathError_X0_has : GoodIn wsX2_pathError (wsV RX2 38 RX0 yX0_has wsX0_has) := goodIn_app (goodIn_of _ (by decide +kernel)) ggX2_pathError_X0_has
set_option maxRecDepth 20000 in
theorem ggX2_pathError_X0_rootOf : GoodIn wsX2_pathError wsX0_rootOf := goodIn_r _ [13, 14, 15, 16, 7, 17, 18, 19, 20, 21, 22, 23, 5, 6, 8, 9, 24, 25, 26, 27, 32, 33, 34, 35] (by decide +kernel) (by decide +kernel)
set_option maxRecDepth 20000 in
theorem gX2_pathError_X0_rootOf : GoodIn wsX2_pathError (wsV RX2 47 RX0 yX0_rootOf wsX0_rootOf) := goodIn_app (goodIn_of _ (by decide +kernel)) ggX2_pathError_X0_rootOf
theorem dX2_pathError_0 : decode cX2_pathError 0 = .ok (.aload_n 0, 1) := by decide +kernel
theorem dX2_pathError_1 : decode cX2_pathError 1 = .ok (.getfield 10, 3) := by decide +kernel
theorem dX2_pathError_4 : decode cX2_pathError 4 = .ok (.iload_n 1, 1) := by decide +kernel
theorem dX2_pathError_5 : decode cX2_pathError 5 = .ok (.invokevirtual 38, 3) := by decide +kernel
theorem dX2_pathError_8 : decode cX2_pathError 8 = .ok (.ifCond .eq 14, 3) := by decide +kernel
theorem dX2_pathError_11 : decode cX2_pathError 11 = .ok (.aload_n 0, 1) := by decide +kernel
theorem dX2_pathError_12 : decode cX2_pathError 12 = .ok (.getfield 10, 3) := by decide +kernel
theorem dX2_pathError_15 : decode cX2_pathError 15 = .ok (.iload_n 2, 1) := by decide +kernel
theorem dX2_pathError_16 : decode cX2_pathError 16 = .ok (.invokevirtual 38, 3) := by decide +kernel
theorem dX2_pathError_19 : decode cX2_pathError 19 = .ok (.ifCond .ne 6, 3) := by decide +kernel
theorem dX2_pathError_22 : decode cX2_pathError 22 = .ok (.ldc 42, 2) := by decide +kernel
theorem dX2_pathError_24 : decode cX2_pathError 24 = .ok (.ireturn, 1) := by decide +kernel
theorem dX2_pathError_25 : decode cX2_pathError 25 = .ok (.aload_n 0, 1) := by decide +kernel
theorem dX2_pathError_26 : decode cX2_pathError 26 = .ok (.getfield 10, 3) := by decide +kernel
theorem dX2_pathError_29 : decode cX2_pathError 29 = .ok (.iload_n 1, 1) := by decide +kernel
theorem dX2_pathError_30 : decode cX2_pathError 30 = .ok (.invokevirtual 47, 3) := by decide +kernel
theorem dX2_pathError_33 : decode cX2_pathError 33 = .ok (.aload_n 0, 1) := by decide +kernel
theorem dX2_pathError_34 : decode cX2_pathError 34 = .ok (.getfield 10, 3) := by decide +kernel
theorem dX2_pathError_37 : decode cX2_pathError 37 = .ok (.iload_n 2, 1) := by decide +kernel
theorem dX2_pathError_38 : decode cX2_pathError 38 = .ok (.invokevirtual 47, 3) := by decide +kernel
theorem dX2_pathError_41 : decode cX2_pathError 41 = .ok (.if_icmp .ne 7, 3) := by decide +kernel
theorem dX2_pathError_44 : decode cX2_pathError 44 = .ok (.iconst 0, 1) := by decide +kernel
theorem dX2_pathError_45 : decode cX2_pathError 45 = .ok (.goto 5, 3) := by decide +kernel
theorem dX2_pathError_48 : decode cX2_pathError 48 = .ok (.ldc 138, 2) := by decide +kernel
theorem dX2_pathError_50 : decode cX2_pathError 50 = .ok (.ireturn, 1) := by decide +kernel
set_option maxRecDepth 20000 in
theorem ggX2_tracePath_X2_pathError : GoodIn wsX2_tracePath wsX2_pathError := goodIn_r _ [7, 2, 8, 9, 10, 11, 12, 13, 14, 15, 16, 17, 18, 19, 20, 21, 22, 23, 24, 25, 26, 27, 28, 29, 30, 31, 32, 33, 66, 67, 68, 69, 70, 71, 72, 73] (by decide +kernel) (by decide +kernel)
set_option maxRecDepth 20000 in
theorem gX2_tracePath_X2_pathError : GoodIn wsX2_tracePath (wsV RX2 72 RX2 yX2_pathError wsX2_pathError) := goodIn_app (goodIn_of _ (by decide +kernel)) ggX2_tracePath_X2_pathError
set_option maxRecDepth 20000 in
theorem ggX2_tracePath_X1_trace : GoodIn wsX2_tracePath wsX1_trace := goodIn_r _ [38, 39, 40, 41, 42, 13, 43, 20, 21, 22, 23, 24, 25, 26, 27, 28, 29, 11, 12, 14, 15, 30, 31, 32, 33, 44, 45, 46, 37, 47, 48, 49, 50, 51, 52, 53, 54, 55, 56, 57, 58, 59, 60, 61, 62, 63, 64, 65, 74, 75, 70, 71, 72, 73] (by decide +kernel) (by decide +kernel)
set_option maxRecDepth 20000 in
theorem gX2_tracePath_X1_trace : GoodIn wsX2_tracePath (wsV RX2 139 RX1 yX1_trace wsX1_trace) := goodIn_app (goodIn_of _ (by decide +kernel)) ggX2_tracePath_X1_trace
theorem dX2_tracePath_0 : decode cX2_tracePath 0 = .ok (.aload_n 0, 1) := by decide +kernel
theorem dX2_tracePath_1 : decode cX2_tracePath 1 = .ok (.iload_n 1, 1) := by decide +kernel
theorem dX2_tracePath_2 : decode cX2_tracePath 2 = .ok (.iload_n 2, 1) := by decide +kernel
theorem dX2_tracePath_3 : decode cX2_tracePath 3 = .ok (.invokevirtual 72, 3) := by decide +kernel
theorem dX2_tracePath_6 : decode cX2_tracePath 6 = .ok (.istore_n 3, 1) := by decide +kernel
theorem dX2_tracePath_7 : decode cX2_tracePath 7 = .ok (.iload_n 3, 1) := by decide +kernel
theorem dX2_tracePath_8 : decode cX2_tracePath 8 = .ok (.ifCond .ne 16, 3) := by decide +kernel
theorem dX2_tracePath_11 : decode cX2_tracePath 11 = .ok (.aload_n 0, 1) := by decide +kernel
theorem dX2_tracePath_12 : decode cX2_tracePath 12 = .ok (.getfield 25, 3) := by decide +kernel
theorem dX2_tracePath_15 : decode cX2_tracePath 15 = .ok (.aload_n 0, 1) := by decide +kernel
theorem dX2_tracePath_16 : decode cX2_tracePath 16 = .ok (.getfield 10, 3) := by decide +kernel
theorem dX2_tracePath_19 : decode cX2_tracePath 19 = .ok (.iload_n 1, 1) := by decide +kernel
theorem dX2_tracePath_20 : decode cX2_tracePath 20 = .ok (.iload_n 2, 1) := by decide +kernel
theorem dX2_tracePath_21 : decode cX2_tracePath 21 = .ok (.invokevirtual 139, 3) := by decide +kernel
theorem dX2_tracePath_24 : decode cX2_tracePath 24 = .ok (.iload_n 3, 1) := by decide +kernel
theorem dX2_tracePath_25 : decode cX2_tracePath 25 = .ok (.ireturn, 1) := by decide +kernel
set_option maxRecDepth 20000 in
theorem ggX3_init_X3_begin : GoodIn wsX3_init wsX3_begin := goodIn_r _ [14, 5, 15, 16, 17, 18, 19] (by decide +kernel) (by decide +kernel)
set_option maxRecDepth 20000 in
theorem gX3_init_X3_begin : GoodIn wsX3_init (wsV RX3 23 RX3 yX3_begin wsX3_begin) := goodIn_app (goodIn_of _ (by decide +kernel)) ggX3_init_X3_begin
end
section
theorem dX3_init_0 : decode cX3_init 0 = .ok (.aload_n 0, 1) := by decide +kernel
theorem dX3_init_1 : decode cX3_init 1 = .ok (.invokespecial 1, 3) := by decide +kernel
theorem dX3_init_4 : decode cX3_init 4 = .ok (.aload_n 0, 1) := by decide +kernel
theorem dX3_init_5 : decode cX3_init 5 = .ok (.sipush 193, 3) := by decide +kernel
theorem dX3_init_8 : decode cX3_init 8 = .ok (.newarray .int, 2) := by decide +kernel
theorem dX3_init_10 : decode cX3_init 10 = .ok (.putfield 7, 3) := by decide +kernel
theorem dX3_init_13 : decode cX3_init 13 = .ok (.aload_n 0, 1) := by decide +kernel
theorem dX3_init_14 : decode cX3_init 14 = .ok (.sipush 386, 3) := by decide +kernel
theorem dX3_init_17 : decode cX3_init 17 = .ok (.newarray .int, 2) := by decide +kernel
theorem dX3_init_19 : decode cX3_init 19 = .ok (.putfield 13, 3) := by decide +kernel
theorem dX3_init_22 : decode cX3_init 22 = .ok (.aload_n 0, 1) := by decide +kernel
theorem dX3_init_23 : decode cX3_init 23 = .ok (.iconst 2, 1) := by decide +kernel
theorem dX3_init_24 : decode cX3_init 24 = .ok (.newarray .boolean, 2) := by decide +kernel
theorem dX3_init_26 : decode cX3_init 26 = .ok (.putfield 16, 3) := by decide +kernel
theorem dX3_init_29 : decode cX3_init 29 = .ok (.aload_n 0, 1) := by decide +kernel
theorem dX3_init_30 : decode cX3_init 30 = .ok (.bipush 64, 2) := by decide +kernel
theorem dX3_init_32 : decode cX3_init 32 = .ok (.newarray .int, 2) := by decide +kernel
theorem dX3_init_34 : decode cX3_init 34 = .ok (.putfield 20, 3) := by decide +kernel
theorem dX3_init_37 : decode cX3_init 37 = .ok (.aload_n 0, 1) := by decide +kernel
theorem dX3_init_38 : decode cX3_init 38 = .ok (.bipush 16, 2) := by decide +kernel
theorem dX3_init_40 : decode cX3_init 40 = .ok (.invokevirtual 23, 3) := by decide +kernel
theorem dX3_init_43 : decode cX3_init 43 = .ok (.return_, 1) := by decide +kernel
theorem dX3_in_0 : decode cX3_in 0 = .ok (.iload_n 0, 1) := by decide +kernel
theorem dX3_in_1 : decode cX3_in 1 = .ok (.iload_n 1, 1) := by decide +kernel
theorem dX3_in_2 : decode cX3_in 2 = .ok (.if_icmp .lt 12, 3) := by decide +kernel
theorem dX3_in_5 : decode cX3_in 5 = .ok (.iload_n 0, 1) := by decide +kernel
theorem dX3_in_6 : decode cX3_in 6 = .ok (.iload_n 2, 1) := by decide +kernel
theorem dX3_in_7 : decode cX3_in 7 = .ok (.if_icmp .gt 7, 3) := by decide +kernel
theorem dX3_in_10 : decode cX3_in 10 = .ok (.iconst 1, 1) := by decide +kernel
theorem dX3_in_11 : decode cX3_in 11 = .ok (.goto 4, 3) := by decide +kernel
theorem dX3_in_14 : decode cX3_in 14 = .ok (.iconst 0, 1) := by decide +kernel
theorem dX3_in_15 : decode cX3_in 15 = .ok (.ireturn, 1) := by decide +kernel
theorem dX3_begin_0 : decode cX3_begin 0 = .ok (.aload_n 0, 1) := by decide +kernel
theorem dX3_begin_1 : decode cX3_begin 1 = .ok (.getfield 7, 3) := by decide +kernel
theorem dX3_begin_4 : decode cX3_begin 4 = .ok (.iconst 0, 1) := by decide +kernel
theorem dX3_begin_5 : decode cX3_begin 5 = .ok (.iload_n 1, 1) := by decide +kernel
theorem dX3_begin_6 : decode cX3_begin 6 = .ok (.iastore, 1) := by decide +kernel
theorem dX3_begin_7 : decode cX3_begin 7 = .ok (.iconst 0, 1) := by decide +kernel
theorem dX3_begin_8 : decode cX3_begin 8 = .ok (.istore_n 2, 1) := by decide +kernel
theorem dX3_begin_9 : decode cX3_begin 9 = .ok (.iload_n 2, 1) := by decide +kernel
theorem dX3_begin_10 : decode cX3_begin 10 = .ok (.bipush 64, 2) := by decide +kernel
theorem dX3_begin_12 : decode cX3_begin 12 = .ok (.if_icmp .ge 39, 3) := by decide +kernel
theorem dX3_begin_15 : decode cX3_begin 15 = .ok (.aload_n 0, 1) := by decide +kernel
theorem dX3_begin_16 : decode cX3_begin 16 = .ok (.getfield 7, 3) := by decide +kernel
theorem dX3_begin_19 : decode cX3_begin 19 = .ok (.iconst 1, 1) := by decide +kernel
theorem dX3_begin_20 : decode cX3_begin 20 = .ok (.iload_n 2, 1) := by decide +kernel
theorem dX3_begin_21 : decode cX3_begin 21 = .ok (.iadd, 1) := by decide +kernel
theorem dX3_begin_22 : decode cX3_begin 22 = .ok (.iload_n 2, 1) := by decide +kernel
theorem dX3_begin_23 : decode cX3_begin 23 = .ok (.iastore, 1) := by decide +kernel
theorem dX3_begin_24 : decode cX3_begin 24 = .ok (.aload_n 0, 1) := by decide +kernel
theorem dX3_begin_25 : decode cX3_begin 25 = .ok (.getfield 7, 3) := by decide +kernel
theorem dX3_begin_28 : decode cX3_begin 28 = .ok (.bipush 65, 2) := by decide +kernel
theorem dX3_begin_30 : decode cX3_begin 30 = .ok (.iload_n 2, 1) := by decide +kernel
theorem dX3_begin_31 : decode cX3_begin 31 = .ok (.iadd, 1) := by decide +kernel
theorem dX3_begin_32 : decode cX3_begin 32 = .ok (.iconst 0, 1) := by decide +kernel
theorem dX3_begin_33 : decode cX3_begin 33 = .ok (.iastore, 1) := by decide +kernel
theorem dX3_begin_34 : decode cX3_begin 34 = .ok (.aload_n 0, 1) := by decide +kernel
theorem dX3_begin_35 : decode cX3_begin 35 = .ok (.getfield 7, 3) := by decide +kernel
theorem dX3_begin_38 : decode cX3_begin 38 = .ok (.sipush 129, 3) := by decide +kernel
theorem dX3_begin_41 : decode cX3_begin 41 = .ok (.iload_n 2, 1) := by decide +kernel
theorem dX3_begin_42 : decode cX3_begin 42 = .ok (.iadd, 1) := by decide +kernel
theorem dX3_begin_43 : decode cX3_begin 43 = .ok (.iconst 0, 1) := by decide +kernel
theorem dX3_begin_44 : decode cX3_begin 44 = .ok (.iastore, 1) := by decide +kernel
theorem dX3_begin_45 : decode cX3_begin 45 = .ok (.iinc 2 1, 3) := by decide +kernel
theorem dX3_begin_48 : decode cX3_begin 48 = .ok (.goto (-39), 3) := by decide +kernel
theorem dX3_begin_51 : decode cX3_begin 51 = .ok (.return_, 1) := by decide +kernel
theorem dX3_many_0 : decode cX3_many 0 = .ok (.aload_n 0, 1) := by decide +kernel
theorem dX3_many_1 : decode cX3_many 1 = .ok (.getfield 7, 3) := by decide +kernel
theorem dX3_many_4 : decode cX3_many 4 = .ok (.iconst 0, 1) := by decide +kernel
theorem dX3_many_5 : decode cX3_many 5 = .ok (.iaload, 1) := by decide +kernel
theorem dX3_many_6 : decode cX3_many 6 = .ok (.ireturn, 1) := by decide +kernel
set_option maxRecDepth 20000 in
theorem ggX3_isVertex_X3_many : GoodIn wsX3_isVertex wsX3_many := goodIn_r _ [5, 6, 10, 11, 12, 13, 14] (by decide +kernel) (by decide +kernel)
set_option maxRecDepth 20000 in
theorem gX3_isVertex_X3_many : GoodIn wsX3_isVertex (wsV RX3 27 RX3 yX3_many wsX3_many) := goodIn_app (goodIn_of _ (by decide +kernel)) ggX3_isVertex_X3_many
set_option maxRecDepth 20000 in
theorem ggX3_isVertex_X3_in : GoodIn wsX3_isVertex wsX3_in := goodIn_r _ [9] (by decide +kernel) (by decide +kernel)
set_option maxRecDepth 20000 in
theorem gX3_isVertex_X3_in : GoodIn wsX3_isVertex (va_wsS RX3 31 yX3_in wsX3_in) := goodIn_app (goodIn_of _ (by decide +kernel)) ggX3_isVertex_X3_in
theorem dX3_isVertex_0 : decode cX3_isVertex 0 = .ok (.iload_n 1, 1) := by decide +kernel
theorem dX3_isVertex_1 : decode cX3_isVertex 1 = .ok (.iconst 0, 1) := by decide +kernel
theorem dX3_isVertex_2 : decode cX3_isVertex 2 = .ok (.aload_n 0, 1) := by decide +kernel
theorem dX3_isVertex_3 : decode cX3_isVertex 3 = .ok (.invokevirtual 27, 3) := by decide +kernel
theorem dX3_isVertex_6 : decode cX3_isVertex 6 = .ok (.iconst 1, 1) := by decide +kernel
theorem dX3_isVertex_7 : decode cX3_isVertex 7 = .ok (.isub, 1) := by decide +kernel
theorem dX3_isVertex_8 : decode cX3_isVertex 8 = .ok (.invokestatic 31, 3) := by decide +kernel
theorem dX3_isVertex_11 : decode cX3_isVertex 11 = .ok (.ireturn, 1) := by decide +kernel
theorem dX3_above_0 : decode cX3_above 0 = .ok (.aload_n 0, 1) := by decide +kernel
theorem dX3_above_1 : decode cX3_above 1 = .ok (.getfield 7, 3) := by decide +kernel
theorem dX3_above_4 : decode cX3_above 4 = .ok (.iconst 1, 1) := by decide +kernel
theorem dX3_above_5 : decode cX3_above 5 = .ok (.iload_n 1, 1) := by decide +kernel
theorem dX3_above_6 : decode cX3_above 6 = .ok (.iadd, 1) := by decide +kernel
theorem dX3_above_7 : decode cX3_above 7 = .ok (.iaload, 1) := by decide +kernel
theorem dX3_above_8 : decode cX3_above 8 = .ok (.ireturn, 1) := by decide +kernel
set_option maxRecDepth 20000 in
theorem ggX3_isRoot_X3_above : GoodIn wsX3_isRoot wsX3_above := goodIn_r _ [5, 6, 7, 8, 9, 10, 11] (by decide +kernel) (by decide +kernel)
set_option maxRecDepth 20000 in
theorem gX3_isRoot_X3_above : GoodIn wsX3_isRoot (wsV RX3 35 RX3 yX3_above wsX3_above) := goodIn_app (goodIn_of _ (by decide +kernel)) ggX3_isRoot_X3_above
theorem dX3_isRoot_0 : decode cX3_isRoot 0 = .ok (.aload_n 0, 1) := by decide +kernel
theorem dX3_isRoot_1 : decode cX3_isRoot 1 = .ok (.iload_n 1, 1) := by decide +kernel
theorem dX3_isRoot_2 : decode cX3_isRoot 2 = .ok (.invokevirtual 35, 3) := by decide +kernel
theorem dX3_isRoot_5 : decode cX3_isRoot 5 = .ok (.iload_n 1, 1) := by decide +kernel
theorem dX3_isRoot_6 : decode cX3_isRoot 6 = .ok (.if_icmp .ne 7, 3) := by decide +kernel
theorem dX3_isRoot_9 : decode cX3_isRoot 9 = .ok (.iconst 1, 1) := by decide +kernel
theorem dX3_isRoot_10 : decode cX3_isRoot 10 = .ok (.goto 4, 3) := by decide +kernel
theorem dX3_isRoot_13 : decode cX3_isRoot 13 = .ok (.iconst 0, 1) := by decide +kernel
theorem dX3_isRoot_14 : decode cX3_isRoot 14 = .ok (.ireturn, 1) := by decide +kernel
theorem dX3_valueOf_0 : decode cX3_valueOf 0 = .ok (.aload_n 0, 1) := by decide +kernel
theorem dX3_valueOf_1 : decode cX3_valueOf 1 = .ok (.getfield 7, 3) := by decide +kernel
theorem dX3_valueOf_4 : decode cX3_valueOf 4 = .ok (.bipush 65, 2) := by decide +kernel
theorem dX3_valueOf_6 : decode cX3_valueOf 6 = .ok (.iload_n 1, 1) := by decide +kernel
theorem dX3_valueOf_7 : decode cX3_valueOf 7 = .ok (.iadd, 1) := by decide +kernel
theorem dX3_valueOf_8 : decode cX3_valueOf 8 = .ok (.iaload, 1) := by decide +kernel
theorem dX3_valueOf_9 : decode cX3_valueOf 9 = .ok (.ireturn, 1) := by decide +kernel
set_option maxRecDepth 20000 in
theorem ggX3_rootOf_X3_isRoot : GoodIn wsX3_rootOf wsX3_isRoot := goodIn_r _ [5, 6, 7, 8, 4, 9, 10, 11, 12, 13, 14, 15] (by decide +kernel) (by decide +kernel)
set_option maxRecDepth 20000 in
theorem gX3_rootOf_X3_isRoot : GoodIn wsX3_rootOf (wsV RX3 39 RX3 yX3_isRoot wsX3_isRoot) := goodIn_app (goodIn_of _ (by decide +kernel)) ggX3_rootOf_X3_isRoot
set_option maxRecDepth 20000 in
theorem ggX3_rootOf_X3_above : GoodIn wsX3_rootOf wsX3_above := goodIn_r _ [9, 10, 11, 12, 13, 14, 15] (by decide +kernel) (by decide +kernel)
set_option maxRecDepth 20000 in
theorem gX3_rootOf_X3_above : GoodIn wsX3_rootOf (wsV RX3 35 RX3 yX3_above wsX3_above) := goodIn_app (goodIn_of _ (by decide +kernel)) ggX3_rootOf_X3_above
theorem dX3_rootOf_0 : decode cX3_rootOf 0 = .ok (.iload_n 1, 1) := by decide +kernel
theorem dX3_rootOf_1 : decode cX3_rootOf 1 = .ok (.istore_n 2, 1) := by decide +kernel
theorem dX3_rootOf_2 : decode cX3_rootOf 2 = .ok (.aload_n 0, 1) := by decide +kernel
theorem dX3_rootOf_3 : decode cX3_rootOf 3 = .ok (.iload_n 2, 1) := by decide +kernel
theorem dX3_rootOf_4 : decode cX3_rootOf 4 = .ok (.invokevirtual 39, 3) := by decide +kernel
theorem dX3_rootOf_7 : decode cX3_rootOf 7 = .ok (.ifCond .ne 12, 3) := by decide +kernel
theorem dX3_rootOf_10 : decode cX3_rootOf 10 = .ok (.aload_n 0, 1) := by decide +kernel
theorem dX3_rootOf_11 : decode cX3_rootOf 11 = .ok (.iload_n 2, 1) := by decide +kernel
theorem dX3_rootOf_12 : decode cX3_rootOf 12 = .ok (.invokevirtual 35, 3) := by decide +kernel
theorem dX3_rootOf_15 : decode cX3_rootOf 15 = .ok (.istore_n 2, 1) := by decide +kernel
theorem dX3_rootOf_16 : decode cX3_rootOf 16 = .ok (.goto (-14), 3) := by decide +kernel
theorem dX3_rootOf_19 : decode cX3_rootOf 19 = .ok (.iload_n 2, 1) := by decide +kernel
theorem dX3_rootOf_20 : decode cX3_rootOf 20 = .ok (.ireturn, 1) := by decide +kernel
set_option maxRecDepth 20000 in
theorem ggX3_depthOf_X3_isRoot : GoodIn wsX3_depthOf wsX3_isRoot := goodIn_r _ [5, 6, 7, 8, 4, 9, 10, 11, 12, 13, 14, 15] (by decide +kernel) (by decide +kernel)
set_option maxRecDepth 20000 in
theorem gX3_depthOf_X3_isRoot : GoodIn wsX3_depthOf (wsV RX3 39 RX3 yX3_isRoot wsX3_isRoot) := goodIn_app (goodIn_of _ (by decide +kernel)) ggX3_depthOf_X3_isRoot
set_option maxRecDepth 20000 in
theorem ggX3_depthOf_X3_above : GoodIn wsX3_depthOf wsX3_above := goodIn_r _ [9, 10, 11, 12, 13, 14, 15] (by decide +kernel) (by decide +kernel)
set_option maxRecDepth 20000 in
theorem gX3_depthOf_X3_above : GoodIn wsX3_depthOf (wsV RX3 35 RX3 yX3_above wsX3_above) := goodIn_app (goodIn_of _ (by decide +kernel)) ggX3_depthOf_X3_above
theorem dX3_depthOf_0 : decode cX3_depthOf 0 = .ok (.iconst 0, 1) := by decide +kernel
theorem dX3_depthOf_1 : decode cX3_depthOf 1 = .ok (.istore_n 2, 1) := by decide +kernel
theorem dX3_depthOf_2 : decode cX3_depthOf 2 = .ok (.iload_n 1, 1) := by decide +kernel
theorem dX3_depthOf_3 : decode cX3_depthOf 3 = .ok (.istore_n 3, 1) := by decide +kernel
theorem dX3_depthOf_4 : decode cX3_depthOf 4 = .ok (.aload_n 0, 1) := by decide +kernel
theorem dX3_depthOf_5 : decode cX3_depthOf 5 = .ok (.iload_n 3, 1) := by decide +kernel
theorem dX3_depthOf_6 : decode cX3_depthOf 6 = .ok (.invokevirtual 39, 3) := by decide +kernel
theorem dX3_depthOf_9 : decode cX3_depthOf 9 = .ok (.ifCond .ne 15, 3) := by decide +kernel
theorem dX3_depthOf_12 : decode cX3_depthOf 12 = .ok (.iinc 2 1, 3) := by decide +kernel
theorem dX3_depthOf_15 : decode cX3_depthOf 15 = .ok (.aload_n 0, 1) := by decide +kernel
theorem dX3_depthOf_16 : decode cX3_depthOf 16 = .ok (.iload_n 3, 1) := by decide +kernel
theorem dX3_depthOf_17 : decode cX3_depthOf 17 = .ok (.invokevirtual 35, 3) := by decide +kernel
theorem dX3_depthOf_20 : decode cX3_depthOf 20 = .ok (.istore_n 3, 1) := by decide +kernel
theorem dX3_depthOf_21 : decode cX3_depthOf 21 = .ok (.goto (-17), 3) := by decide +kernel
theorem dX3_depthOf_24 : decode cX3_depthOf 24 = .ok (.iload_n 2, 1) := by decide +kernel
theorem dX3_depthOf_25 : decode cX3_depthOf 25 = .ok (.ireturn, 1) := by decide +kernel
set_option maxRecDepth 20000 in
theorem ggX3_reset_X3_in : GoodIn wsX3_reset wsX3_in := goodIn_r _ [5] (by decide +kernel) (by decide +kernel)
set_option maxRecDepth 20000 in
theorem gX3_reset_X3_in : GoodIn wsX3_reset (va_wsS RX3 31 yX3_in wsX3_in) := goodIn_app (goodIn_of _ (by decide +kernel)) ggX3_reset_X3_in
set_option maxRecDepth 20000 in
theorem ggX3_reset_X3_many : GoodIn wsX3_reset wsX3_many := goodIn_r _ [9, 10, 15, 16, 17, 18, 19] (by decide +kernel) (by decide +kernel)
set_option maxRecDepth 20000 in
theorem gX3_reset_X3_many : GoodIn wsX3_reset (wsV RX3 27 RX3 yX3_many wsX3_many) := goodIn_app (goodIn_of _ (by decide +kernel)) ggX3_reset_X3_many
set_option maxRecDepth 20000 in
theorem ggX3_reset_X3_begin : GoodIn wsX3_reset wsX3_begin := goodIn_r _ [14, 10, 15, 16, 17, 18, 19] (by decide +kernel) (by decide +kernel)
set_option maxRecDepth 20000 in
theorem gX3_reset_X3_begin : GoodIn wsX3_reset (wsV RX3 23 RX3 yX3_begin wsX3_begin) := goodIn_app (goodIn_of _ (by decide +kernel)) ggX3_reset_X3_begin
theorem dX3_reset_0 : decode cX3_reset 0 = .ok (.iload_n 1, 1) := by decide +kernel
theorem dX3_reset_1 : decode cX3_reset 1 = .ok (.iconst 1, 1) := by decide +kernel
theorem dX3_reset_2 : decode cX3_reset 2 = .ok (.bipush 64, 2) := by decide +kernel
theorem dX3_reset_4 : decode cX3_reset 4 = .ok (.invokestatic 31, 3) := by decide +kernel
theorem dX3_reset_7 : decode cX3_reset 7 = .ok (.ifCond .ne 6, 3) := by decide +kernel
theorem dX3_reset_10 : decode cX3_reset 10 = .ok (.ldc 43, 2) := by decide +kernel
theorem dX3_reset_12 : decode cX3_reset 12 = .ok (.ireturn, 1) := by decide +kernel
theorem dX3_reset_13 : decode cX3_reset 13 = .ok (.aload_n 0, 1) := by decide +kernel
theorem dX3_reset_14 : decode cX3_reset 14 = .ok (.invokevirtual 27, 3) := by decide +kernel
theorem dX3_reset_17 : decode cX3_reset 17 = .ok (.istore_n 2, 1) := by decide +kernel
theorem dX3_reset_18 : decode cX3_reset 18 = .ok (.aload_n 0, 1) := by decide +kernel
theorem dX3_reset_19 : decode cX3_reset 19 = .ok (.iload_n 1, 1) := by decide +kernel
theorem dX3_reset_20 : decode cX3_reset 20 = .ok (.invokevirtual 23, 3) := by decide +kernel
theorem dX3_reset_23 : decode cX3_reset 23 = .ok (.iload_n 2, 1) := by decide +kernel
theorem dX3_reset_24 : decode cX3_reset 24 = .ok (.ireturn, 1) := by decide +kernel
set_option maxRecDepth 20000 in
theorem ggX3_link_X3_isVertex : GoodIn wsX3_link wsX3_isVertex := goodIn_r _ [9, 10, 11, 12, 8, 13, 4, 14, 15, 16, 29, 30, 31, 32, 33] (by decide +kernel) (by decide +kernel)
set_option maxRecDepth 20000 in
theorem gX3_link_X3_isVertex : GoodIn wsX3_link (wsV RX3 44 RX3 yX3_isVertex wsX3_isVertex) := goodIn_app (goodIn_of _ (by decide +kernel)) ggX3_link_X3_isVertex
set_option maxRecDepth 20000 in
theorem ggX3_link_X3_isRoot : GoodIn wsX3_link wsX3_isRoot := goodIn_r _ [20, 21, 22, 23, 8, 24, 4, 29, 30, 31, 32, 33] (by decide +kernel) (by decide +kernel)
set_option maxRecDepth 20000 in
theorem gX3_link_X3_isRoot : GoodIn wsX3_link (wsV RX3 39 RX3 yX3_isRoot wsX3_isRoot) := goodIn_app (goodIn_of _ (by decide +kernel)) ggX3_link_X3_isRoot
set_option maxRecDepth 20000 in
theorem ggX3_link_X3_rootOf : GoodIn wsX3_link wsX3_rootOf := goodIn_r _ [28, 17, 18, 19, 8, 20, 21, 22, 23, 24, 4, 29, 30, 31, 32, 33] (by decide +kernel) (by decide +kernel)
set_option maxRecDepth 20000 in
theorem gX3_link_X3_rootOf : GoodIn wsX3_link (wsV RX3 49 RX3 yX3_rootOf wsX3_rootOf) := goodIn_app (goodIn_of _ (by decide +kernel)) ggX3_link_X3_rootOf
set_option maxRecDepth 20000 in
theorem ggX3_link_X3_many : GoodIn wsX3_link wsX3_many := goodIn_r _ [13, 4, 29, 30, 31, 32, 33] (by decide +kernel) (by decide +kernel)
set_option maxRecDepth 20000 in
theorem gX3_link_X3_many : GoodIn wsX3_link (wsV RX3 27 RX3 yX3_many wsX3_many) := goodIn_app (goodIn_of _ (by decide +kernel)) ggX3_link_X3_many
theorem dX3_link_0 : decode cX3_link 0 = .ok (.aload_n 0, 1) := by decide +kernel
theorem dX3_link_1 : decode cX3_link 1 = .ok (.iload_n 1, 1) := by decide +kernel
theorem dX3_link_2 : decode cX3_link 2 = .ok (.invokevirtual 44, 3) := by decide +kernel
theorem dX3_link_5 : decode cX3_link 5 = .ok (.ifCond .eq 11, 3) := by decide +kernel
theorem dX3_link_8 : decode cX3_link 8 = .ok (.aload_n 0, 1) := by decide +kernel
theorem dX3_link_9 : decode cX3_link 9 = .ok (.iload_n 2, 1) := by decide +kernel
theorem dX3_link_10 : decode cX3_link 10 = .ok (.invokevirtual 44, 3) := by decide +kernel
theorem dX3_link_13 : decode cX3_link 13 = .ok (.ifCond .ne 6, 3) := by decide +kernel
theorem dX3_link_16 : decode cX3_link 16 = .ok (.ldc 47, 2) := by decide +kernel
theorem dX3_link_18 : decode cX3_link 18 = .ok (.ireturn, 1) := by decide +kernel
theorem dX3_link_19 : decode cX3_link 19 = .ok (.aload_n 0, 1) := by decide +kernel
theorem dX3_link_20 : decode cX3_link 20 = .ok (.iload_n 1, 1) := by decide +kernel
theorem dX3_link_21 : decode cX3_link 21 = .ok (.invokevirtual 39, 3) := by decide +kernel
theorem dX3_link_24 : decode cX3_link 24 = .ok (.ifCond .ne 6, 3) := by decide +kernel
theorem dX3_link_27 : decode cX3_link 27 = .ok (.ldc 48, 2) := by decide +kernel
theorem dX3_link_29 : decode cX3_link 29 = .ok (.ireturn, 1) := by decide +kernel
theorem dX3_link_30 : decode cX3_link 30 = .ok (.aload_n 0, 1) := by decide +kernel
theorem dX3_link_31 : decode cX3_link 31 = .ok (.iload_n 2, 1) := by decide +kernel
theorem dX3_link_32 : decode cX3_link 32 = .ok (.invokevirtual 49, 3) := by decide +kernel
theorem dX3_link_35 : decode cX3_link 35 = .ok (.iload_n 1, 1) := by decide +kernel
theorem dX3_link_36 : decode cX3_link 36 = .ok (.if_icmp .ne 6, 3) := by decide +kernel
theorem dX3_link_39 : decode cX3_link 39 = .ok (.ldc 52, 2) := by decide +kernel
theorem dX3_link_41 : decode cX3_link 41 = .ok (.ireturn, 1) := by decide +kernel
theorem dX3_link_42 : decode cX3_link 42 = .ok (.aload_n 0, 1) := by decide +kernel
theorem dX3_link_43 : decode cX3_link 43 = .ok (.getfield 7, 3) := by decide +kernel
theorem dX3_link_46 : decode cX3_link 46 = .ok (.iconst 1, 1) := by decide +kernel
theorem dX3_link_47 : decode cX3_link 47 = .ok (.iload_n 1, 1) := by decide +kernel
theorem dX3_link_48 : decode cX3_link 48 = .ok (.iadd, 1) := by decide +kernel
theorem dX3_link_49 : decode cX3_link 49 = .ok (.iload_n 2, 1) := by decide +kernel
theorem dX3_link_50 : decode cX3_link 50 = .ok (.iastore, 1) := by decide +kernel
theorem dX3_link_51 : decode cX3_link 51 = .ok (.aload_n 0, 1) := by decide +kernel
theorem dX3_link_52 : decode cX3_link 52 = .ok (.iload_n 2, 1) := by decide +kernel
theorem dX3_link_53 : decode cX3_link 53 = .ok (.invokevirtual 49, 3) := by decide +kernel
theorem dX3_link_56 : decode cX3_link 56 = .ok (.istore_n 3, 1) := by decide +kernel
theorem dX3_link_57 : decode cX3_link 57 = .ok (.iconst 0, 1) := by decide +kernel
theorem dX3_link_58 : decode cX3_link 58 = .ok (.istore 4, 2) := by decide +kernel
theorem dX3_link_60 : decode cX3_link 60 = .ok (.iconst 0, 1) := by decide +kernel
theorem dX3_link_61 : decode cX3_link 61 = .ok (.istore 5, 2) := by decide +kernel
theorem dX3_link_63 : decode cX3_link 63 = .ok (.iload 5, 2) := by decide +kernel
theorem dX3_link_65 : decode cX3_link 65 = .ok (.aload_n 0, 1) := by decide +kernel
theorem dX3_link_66 : decode cX3_link 66 = .ok (.invokevirtual 27, 3) := by decide +kernel
theorem dX3_link_69 : decode cX3_link 69 = .ok (.if_icmp .ge 29, 3) := by decide +kernel
theorem dX3_link_72 : decode cX3_link 72 = .ok (.iload 4, 2) := by decide +kernel
theorem dX3_link_74 : decode cX3_link 74 = .ok (.aload_n 0, 1) := by decide +kernel
theorem dX3_link_75 : decode cX3_link 75 = .ok (.iload 5, 2) := by decide +kernel
theorem dX3_link_77 : decode cX3_link 77 = .ok (.invokevirtual 49, 3) := by decide +kernel
theorem dX3_link_80 : decode cX3_link 80 = .ok (.iload_n 3, 1) := by decide +kernel
theorem dX3_link_81 : decode cX3_link 81 = .ok (.if_icmp .ne 7, 3) := by decide +kernel
theorem dX3_link_84 : decode cX3_link 84 = .ok (.iconst 1, 1) := by decide +kernel
theorem dX3_link_85 : decode cX3_link 85 = .ok (.goto 4, 3) := by decide +kernel
theorem dX3_link_88 : decode cX3_link 88 = .ok (.iconst 0, 1) := by decide +kernel
theorem dX3_link_89 : decode cX3_link 89 = .ok (.iadd, 1) := by decide +kernel
theorem dX3_link_90 : decode cX3_link 90 = .ok (.istore 4, 2) := by decide +kernel
theorem dX3_link_92 : decode cX3_link 92 = .ok (.iinc 5 1, 3) := by decide +kernel
theorem dX3_link_95 : decode cX3_link 95 = .ok (.goto (-32), 3) := by decide +kernel
theorem dX3_link_98 : decode cX3_link 98 = .ok (.iload 4, 2) := by decide +kernel
theorem dX3_link_100 : decode cX3_link 100 = .ok (.ireturn, 1) := by decide +kernel
set_option maxRecDepth 20000 in
theorem ggX3_cut_X3_isVertex : GoodIn wsX3_cut wsX3_isVertex := goodIn_r _ [8, 9, 10, 11, 7, 12, 3, 13, 14, 15, 24, 25, 26, 27, 28] (by decide +kernel) (by decide +kernel)
set_option maxRecDepth 20000 in
theorem gX3_cut_X3_isVertex : GoodIn wsX3_cut (wsV RX3 44 RX3 yX3_isVertex wsX3_isVertex) := goodIn_app (goodIn_of _ (by decide +kernel)) ggX3_cut_X3_isVertex
set_option maxRecDepth 20000 in
theorem ggX3_cut_X3_isRoot : GoodIn wsX3_cut wsX3_isRoot := goodIn_r _ [19, 20, 21, 22, 7, 23, 3, 24, 25, 26, 27, 28] (by decide +kernel) (by decide +kernel)
set_option maxRecDepth 20000 in
theorem gX3_cut_X3_isRoot : GoodIn wsX3_cut (wsV RX3 39 RX3 yX3_isRoot wsX3_isRoot) := goodIn_app (goodIn_of _ (by decide +kernel)) ggX3_cut_X3_isRoot
set_option maxRecDepth 20000 in
theorem ggX3_cut_X3_above : GoodIn wsX3_cut wsX3_above := goodIn_r _ [23, 3, 24, 25, 26, 27, 28] (by decide +kernel) (by decide +kernel)
set_option maxRecDepth 20000 in
theorem gX3_cut_X3_above : GoodIn wsX3_cut (wsV RX3 35 RX3 yX3_above wsX3_above) := goodIn_app (goodIn_of _ (by decide +kernel)) ggX3_cut_X3_above
theorem dX3_cut_0 : decode cX3_cut 0 = .ok (.aload_n 0, 1) := by decide +kernel
theorem dX3_cut_1 : decode cX3_cut 1 = .ok (.iload_n 1, 1) := by decide +kernel
theorem dX3_cut_2 : decode cX3_cut 2 = .ok (.invokevirtual 44, 3) := by decide +kernel
theorem dX3_cut_5 : decode cX3_cut 5 = .ok (.ifCond .ne 6, 3) := by decide +kernel
theorem dX3_cut_8 : decode cX3_cut 8 = .ok (.ldc 47, 2) := by decide +kernel
theorem dX3_cut_10 : decode cX3_cut 10 = .ok (.ireturn, 1) := by decide +kernel
theorem dX3_cut_11 : decode cX3_cut 11 = .ok (.aload_n 0, 1) := by decide +kernel
theorem dX3_cut_12 : decode cX3_cut 12 = .ok (.iload_n 1, 1) := by decide +kernel
theorem dX3_cut_13 : decode cX3_cut 13 = .ok (.invokevirtual 39, 3) := by decide +kernel
theorem dX3_cut_16 : decode cX3_cut 16 = .ok (.ifCond .eq 6, 3) := by decide +kernel
theorem dX3_cut_19 : decode cX3_cut 19 = .ok (.ldc 53, 2) := by decide +kernel
theorem dX3_cut_21 : decode cX3_cut 21 = .ok (.ireturn, 1) := by decide +kernel
theorem dX3_cut_22 : decode cX3_cut 22 = .ok (.aload_n 0, 1) := by decide +kernel
theorem dX3_cut_23 : decode cX3_cut 23 = .ok (.iload_n 1, 1) := by decide +kernel
theorem dX3_cut_24 : decode cX3_cut 24 = .ok (.invokevirtual 35, 3) := by decide +kernel
theorem dX3_cut_27 : decode cX3_cut 27 = .ok (.istore_n 2, 1) := by decide +kernel
theorem dX3_cut_28 : decode cX3_cut 28 = .ok (.aload_n 0, 1) := by decide +kernel
theorem dX3_cut_29 : decode cX3_cut 29 = .ok (.getfield 7, 3) := by decide +kernel
theorem dX3_cut_32 : decode cX3_cut 32 = .ok (.iconst 1, 1) := by decide +kernel
theorem dX3_cut_33 : decode cX3_cut 33 = .ok (.iload_n 1, 1) := by decide +kernel
theorem dX3_cut_34 : decode cX3_cut 34 = .ok (.iadd, 1) := by decide +kernel
theorem dX3_cut_35 : decode cX3_cut 35 = .ok (.iload_n 1, 1) := by decide +kernel
theorem dX3_cut_36 : decode cX3_cut 36 = .ok (.iastore, 1) := by decide +kernel
theorem dX3_cut_37 : decode cX3_cut 37 = .ok (.iload_n 2, 1) := by decide +kernel
theorem dX3_cut_38 : decode cX3_cut 38 = .ok (.ireturn, 1) := by decide +kernel
set_option maxRecDepth 20000 in
theorem ggX3_reroot_X3_isVertex : GoodIn wsX3_reroot wsX3_isVertex := goodIn_r _ [7, 8, 9, 10, 6, 11, 2, 12, 13, 14, 27, 28, 29, 30, 31] (by decide +kernel) (by decide +kernel)
set_option maxRecDepth 20000 in
theorem gX3_reroot_X3_isVertex : GoodIn wsX3_reroot (wsV RX3 44 RX3 yX3_isVertex wsX3_isVertex) := goodIn_app (goodIn_of _ (by decide +kernel)) ggX3_reroot_X3_isVertex
set_option maxRecDepth 20000 in
theorem ggX3_reroot_X3_rootOf : GoodIn wsX3_reroot wsX3_rootOf := goodIn_r _ [18, 19, 20, 21, 6, 22, 23, 24, 25, 26, 2, 27, 28, 29, 30, 31] (by decide +kernel) (by decide +kernel)
set_option maxRecDepth 20000 in
theorem gX3_reroot_X3_rootOf : GoodIn wsX3_reroot (wsV RX3 49 RX3 yX3_rootOf wsX3_rootOf) := goodIn_app (goodIn_of _ (by decide +kernel)) ggX3_reroot_X3_rootOf
set_option maxRecDepth 20000 in
theorem ggX3_reroot_X3_above : GoodIn wsX3_reroot wsX3_above := goodIn_r _ [26, 2, 27, 28, 29, 30, 31] (by decide +kernel) (by decide +kernel)
set_option maxRecDepth 20000 in
theorem gX3_reroot_X3_above : GoodIn wsX3_reroot (wsV RX3 35 RX3 yX3_above wsX3_above) := goodIn_app (goodIn_of _ (by decide +kernel)) ggX3_reroot_X3_above
theorem dX3_reroot_0 : decode cX3_reroot 0 = .ok (.aload_n 0, 1) := by decide +kernel
theorem dX3_reroot_1 : decode cX3_reroot 1 = .ok (.iload_n 1, 1) := by decide +kernel
theorem dX3_reroot_2 : decode cX3_reroot 2 = .ok (.invokevirtual 44, 3) := by decide +kernel
theorem dX3_reroot_5 : decode cX3_reroot 5 = .ok (.ifCond .ne 6, 3) := by decide +kernel
theorem dX3_reroot_8 : decode cX3_reroot 8 = .ok (.ldc 47, 2) := by decide +kernel
theorem dX3_reroot_10 : decode cX3_reroot 10 = .ok (.ireturn, 1) := by decide +kernel
theorem dX3_reroot_11 : decode cX3_reroot 11 = .ok (.aload_n 0, 1) := by decide +kernel
theorem dX3_reroot_12 : decode cX3_reroot 12 = .ok (.iload_n 1, 1) := by decide +kernel
theorem dX3_reroot_13 : decode cX3_reroot 13 = .ok (.invokevirtual 49, 3) := by decide +kernel
theorem dX3_reroot_16 : decode cX3_reroot 16 = .ok (.istore_n 2, 1) := by decide +kernel
theorem dX3_reroot_17 : decode cX3_reroot 17 = .ok (.iload_n 1, 1) := by decide +kernel
theorem dX3_reroot_18 : decode cX3_reroot 18 = .ok (.istore_n 3, 1) := by decide +kernel
theorem dX3_reroot_19 : decode cX3_reroot 19 = .ok (.aload_n 0, 1) := by decide +kernel
theorem dX3_reroot_20 : decode cX3_reroot 20 = .ok (.iload_n 3, 1) := by decide +kernel
theorem dX3_reroot_21 : decode cX3_reroot 21 = .ok (.invokevirtual 35, 3) := by decide +kernel
theorem dX3_reroot_24 : decode cX3_reroot 24 = .ok (.istore 4, 2) := by decide +kernel
theorem dX3_reroot_26 : decode cX3_reroot 26 = .ok (.aload_n 0, 1) := by decide +kernel
theorem dX3_reroot_27 : decode cX3_reroot 27 = .ok (.getfield 7, 3) := by decide +kernel
theorem dX3_reroot_30 : decode cX3_reroot 30 = .ok (.iconst 1, 1) := by decide +kernel
theorem dX3_reroot_31 : decode cX3_reroot 31 = .ok (.iload_n 3, 1) := by decide +kernel
theorem dX3_reroot_32 : decode cX3_reroot 32 = .ok (.iadd, 1) := by decide +kernel
theorem dX3_reroot_33 : decode cX3_reroot 33 = .ok (.iload_n 3, 1) := by decide +kernel
theorem dX3_reroot_34 : decode cX3_reroot 34 = .ok (.iastore, 1) := by decide +kernel
theorem dX3_reroot_35 : decode cX3_reroot 35 = .ok (.iload 4, 2) := by decide +kernel
theorem dX3_reroot_37 : decode cX3_reroot 37 = .ok (.iload_n 3, 1) := by decide +kernel
theorem dX3_reroot_38 : decode cX3_reroot 38 = .ok (.if_icmp .eq 31, 3) := by decide +kernel
theorem dX3_reroot_41 : decode cX3_reroot 41 = .ok (.aload_n 0, 1) := by decide +kernel
theorem dX3_reroot_42 : decode cX3_reroot 42 = .ok (.iload 4, 2) := by decide +kernel
theorem dX3_reroot_44 : decode cX3_reroot 44 = .ok (.invokevirtual 35, 3) := by decide +kernel
theorem dX3_reroot_47 : decode cX3_reroot 47 = .ok (.istore 5, 2) := by decide +kernel
theorem dX3_reroot_49 : decode cX3_reroot 49 = .ok (.aload_n 0, 1) := by decide +kernel
theorem dX3_reroot_50 : decode cX3_reroot 50 = .ok (.getfield 7, 3) := by decide +kernel
theorem dX3_reroot_53 : decode cX3_reroot 53 = .ok (.iconst 1, 1) := by decide +kernel
theorem dX3_reroot_54 : decode cX3_reroot 54 = .ok (.iload 4, 2) := by decide +kernel
theorem dX3_reroot_56 : decode cX3_reroot 56 = .ok (.iadd, 1) := by decide +kernel
theorem dX3_reroot_57 : decode cX3_reroot 57 = .ok (.iload_n 3, 1) := by decide +kernel
theorem dX3_reroot_58 : decode cX3_reroot 58 = .ok (.iastore, 1) := by decide +kernel
theorem dX3_reroot_59 : decode cX3_reroot 59 = .ok (.iload 4, 2) := by decide +kernel
theorem dX3_reroot_61 : decode cX3_reroot 61 = .ok (.istore_n 3, 1) := by decide +kernel
theorem dX3_reroot_62 : decode cX3_reroot 62 = .ok (.iload 5, 2) := by decide +kernel
theorem dX3_reroot_64 : decode cX3_reroot 64 = .ok (.istore 4, 2) := by decide +kernel
theorem dX3_reroot_66 : decode cX3_reroot 66 = .ok (.goto (-31), 3) := by decide +kernel
theorem dX3_reroot_69 : decode cX3_reroot 69 = .ok (.iload_n 2, 1) := by decide +kernel
theorem dX3_reroot_70 : decode cX3_reroot 70 = .ok (.ireturn, 1) := by decide +kernel
set_option maxRecDepth 20000 in
theorem ggX3_vertexCount_X3_many : GoodIn wsX3_vertexCount wsX3_many := goodIn_r _ [5, 6, 7, 8, 9, 10, 11] (by decide +kernel) (by decide +kernel)
set_option maxRecDepth 20000 in
theorem gX3_vertexCount_X3_many : GoodIn wsX3_vertexCount (wsV RX3 27 RX3 yX3_many wsX3_many) := goodIn_app (goodIn_of _ (by decide +kernel)) ggX3_vertexCount_X3_many
theorem dX3_vertexCount_0 : decode cX3_vertexCount 0 = .ok (.aload_n 0, 1) := by decide +kernel
theorem dX3_vertexCount_1 : decode cX3_vertexCount 1 = .ok (.invokevirtual 27, 3) := by decide +kernel
theorem dX3_vertexCount_4 : decode cX3_vertexCount 4 = .ok (.ireturn, 1) := by decide +kernel
set_option maxRecDepth 20000 in
theorem ggX3_treeCount_X3_many : GoodIn wsX3_treeCount wsX3_many := goodIn_r _ [5, 6, 15, 16, 17, 18, 19] (by decide +kernel) (by decide +kernel)
set_option maxRecDepth 20000 in
theorem gX3_treeCount_X3_many : GoodIn wsX3_treeCount (wsV RX3 27 RX3 yX3_many wsX3_many) := goodIn_app (goodIn_of _ (by decide +kernel)) ggX3_treeCount_X3_many
set_option maxRecDepth 20000 in
theorem ggX3_treeCount_X3_isRoot : GoodIn wsX3_treeCount wsX3_isRoot := goodIn_r _ [10, 11, 12, 13, 4, 14, 6, 15, 16, 17, 18, 19] (by decide +kernel) (by decide +kernel)
set_option maxRecDepth 20000 in
theorem gX3_treeCount_X3_isRoot : GoodIn wsX3_treeCount (wsV RX3 39 RX3 yX3_isRoot wsX3_isRoot) := goodIn_app (goodIn_of _ (by decide +kernel)) ggX3_treeCount_X3_isRoot
theorem dX3_treeCount_0 : decode cX3_treeCount 0 = .ok (.iconst 0, 1) := by decide +kernel
theorem dX3_treeCount_1 : decode cX3_treeCount 1 = .ok (.istore_n 1, 1) := by decide +kernel
theorem dX3_treeCount_2 : decode cX3_treeCount 2 = .ok (.iconst 0, 1) := by decide +kernel
theorem dX3_treeCount_3 : decode cX3_treeCount 3 = .ok (.istore_n 2, 1) := by decide +kernel
theorem dX3_treeCount_4 : decode cX3_treeCount 4 = .ok (.iload_n 2, 1) := by decide +kernel
theorem dX3_treeCount_5 : decode cX3_treeCount 5 = .ok (.aload_n 0, 1) := by decide +kernel
theorem dX3_treeCount_6 : decode cX3_treeCount 6 = .ok (.invokevirtual 27, 3) := by decide +kernel
theorem dX3_treeCount_9 : decode cX3_treeCount 9 = .ok (.if_icmp .ge 25, 3) := by decide +kernel
theorem dX3_treeCount_12 : decode cX3_treeCount 12 = .ok (.iload_n 1, 1) := by decide +kernel
theorem dX3_treeCount_13 : decode cX3_treeCount 13 = .ok (.aload_n 0, 1) := by decide +kernel
theorem dX3_treeCount_14 : decode cX3_treeCount 14 = .ok (.iload_n 2, 1) := by decide +kernel
theorem dX3_treeCount_15 : decode cX3_treeCount 15 = .ok (.invokevirtual 39, 3) := by decide +kernel
theorem dX3_treeCount_18 : decode cX3_treeCount 18 = .ok (.ifCond .eq 7, 3) := by decide +kernel
theorem dX3_treeCount_21 : decode cX3_treeCount 21 = .ok (.iconst 1, 1) := by decide +kernel
theorem dX3_treeCount_22 : decode cX3_treeCount 22 = .ok (.goto 4, 3) := by decide +kernel
theorem dX3_treeCount_25 : decode cX3_treeCount 25 = .ok (.iconst 0, 1) := by decide +kernel
theorem dX3_treeCount_26 : decode cX3_treeCount 26 = .ok (.iadd, 1) := by decide +kernel
theorem dX3_treeCount_27 : decode cX3_treeCount 27 = .ok (.istore_n 1, 1) := by decide +kernel
theorem dX3_treeCount_28 : decode cX3_treeCount 28 = .ok (.iinc 2 1, 3) := by decide +kernel
theorem dX3_treeCount_31 : decode cX3_treeCount 31 = .ok (.goto (-27), 3) := by decide +kernel
theorem dX3_treeCount_34 : decode cX3_treeCount 34 = .ok (.iload_n 1, 1) := by decide +kernel
theorem dX3_treeCount_35 : decode cX3_treeCount 35 = .ok (.ireturn, 1) := by decide +kernel
set_option maxRecDepth 20000 in
theorem ggX3_parent_X3_isVertex : GoodIn wsX3_parent wsX3_isVertex := goodIn_r _ [7, 8, 9, 10, 6, 11, 12, 13, 14, 15, 24, 25, 26, 27, 28] (by decide +kernel) (by decide +kernel)
set_option maxRecDepth 20000 in
theorem gX3_parent_X3_isVertex : GoodIn wsX3_parent (wsV RX3 44 RX3 yX3_isVertex wsX3_isVertex) := goodIn_app (goodIn_of _ (by decide +kernel)) ggX3_parent_X3_isVertex
set_option maxRecDepth 20000 in
theorem ggX3_parent_X3_isRoot : GoodIn wsX3_parent wsX3_isRoot := goodIn_r _ [19, 20, 21, 22, 6, 23, 12, 24, 25, 26, 27, 28] (by decide +kernel) (by decide +kernel)
set_option maxRecDepth 20000 in
theorem gX3_parent_X3_isRoot : GoodIn wsX3_parent (wsV RX3 39 RX3 yX3_isRoot wsX3_isRoot) := goodIn_app (goodIn_of _ (by decide +kernel)) ggX3_parent_X3_isRoot
set_option maxRecDepth 20000 in
theorem ggX3_parent_X3_above : GoodIn wsX3_parent wsX3_above := goodIn_r _ [23, 12, 24, 25, 26, 27, 28] (by decide +kernel) (by decide +kernel)
set_option maxRecDepth 20000 in
theorem gX3_parent_X3_above : GoodIn wsX3_parent (wsV RX3 35 RX3 yX3_above wsX3_above) := goodIn_app (goodIn_of _ (by decide +kernel)) ggX3_parent_X3_above
theorem dX3_parent_0 : decode cX3_parent 0 = .ok (.aload_n 0, 1) := by decide +kernel
theorem dX3_parent_1 : decode cX3_parent 1 = .ok (.iload_n 1, 1) := by decide +kernel
theorem dX3_parent_2 : decode cX3_parent 2 = .ok (.invokevirtual 44, 3) := by decide +kernel
theorem dX3_parent_5 : decode cX3_parent 5 = .ok (.ifCond .ne 6, 3) := by decide +kernel
theorem dX3_parent_8 : decode cX3_parent 8 = .ok (.ldc 47, 2) := by decide +kernel
theorem dX3_parent_10 : decode cX3_parent 10 = .ok (.ireturn, 1) := by decide +kernel
theorem dX3_parent_11 : decode cX3_parent 11 = .ok (.aload_n 0, 1) := by decide +kernel
theorem dX3_parent_12 : decode cX3_parent 12 = .ok (.iload_n 1, 1) := by decide +kernel
theorem dX3_parent_13 : decode cX3_parent 13 = .ok (.invokevirtual 39, 3) := by decide +kernel
theorem dX3_parent_16 : decode cX3_parent 16 = .ok (.ifCond .eq 8, 3) := by decide +kernel
theorem dX3_parent_19 : decode cX3_parent 19 = .ok (.ldc 53, 2) := by decide +kernel
theorem dX3_parent_21 : decode cX3_parent 21 = .ok (.goto 8, 3) := by decide +kernel
theorem dX3_parent_24 : decode cX3_parent 24 = .ok (.aload_n 0, 1) := by decide +kernel
theorem dX3_parent_25 : decode cX3_parent 25 = .ok (.iload_n 1, 1) := by decide +kernel
theorem dX3_parent_26 : decode cX3_parent 26 = .ok (.invokevirtual 35, 3) := by decide +kernel
theorem dX3_parent_29 : decode cX3_parent 29 = .ok (.ireturn, 1) := by decide +kernel
set_option maxRecDepth 20000 in
theorem ggX3_root_X3_isVertex : GoodIn wsX3_root wsX3_isVertex := goodIn_r _ [6, 7, 8, 9, 5, 10, 11, 12, 13, 14, 27, 28, 29, 30, 31] (by decide +kernel) (by decide +kernel)
set_option maxRecDepth 20000 in
theorem gX3_root_X3_isVertex : GoodIn wsX3_root (wsV RX3 44 RX3 yX3_isVertex wsX3_isVertex) := goodIn_app (goodIn_of _ (by decide +kernel)) ggX3_root_X3_isVertex
set_option maxRecDepth 20000 in
theorem ggX3_root_X3_rootOf : GoodIn wsX3_root wsX3_rootOf := goodIn_r _ [18, 19, 20, 21, 5, 22, 23, 24, 25, 26, 11, 27, 28, 29, 30, 31] (by decide +kernel) (by decide +kernel)
set_option maxRecDepth 20000 in
theorem gX3_root_X3_rootOf : GoodIn wsX3_root (wsV RX3 49 RX3 yX3_rootOf wsX3_rootOf) := goodIn_app (goodIn_of _ (by decide +kernel)) ggX3_root_X3_rootOf
theorem dX3_root_0 : decode cX3_root 0 = .ok (.aload_n 0, 1) := by decide +kernel
theorem dX3_root_1 : decode cX3_root 1 = .ok (.iload_n 1, 1) := by decide +kernel
theorem dX3_root_2 : decode cX3_root 2 = .ok (.invokevirtual 44, 3) := by decide +kernel
theorem dX3_root_5 : decode cX3_root 5 = .ok (.ifCond .eq 11, 3) := by decide +kernel
theorem dX3_root_8 : decode cX3_root 8 = .ok (.aload_n 0, 1) := by decide +kernel
theorem dX3_root_9 : decode cX3_root 9 = .ok (.iload_n 1, 1) := by decide +kernel
theorem dX3_root_10 : decode cX3_root 10 = .ok (.invokevirtual 49, 3) := by decide +kernel
theorem dX3_root_13 : decode cX3_root 13 = .ok (.goto 5, 3) := by decide +kernel
theorem dX3_root_16 : decode cX3_root 16 = .ok (.ldc 47, 2) := by decide +kernel
theorem dX3_root_18 : decode cX3_root 18 = .ok (.ireturn, 1) := by decide +kernel
set_option maxRecDepth 20000 in
theorem ggX3_depth_X3_isVertex : GoodIn wsX3_depth wsX3_isVertex := goodIn_r _ [6, 7, 8, 9, 5, 10, 11, 12, 13, 14, 27, 28, 29, 30, 31] (by decide +kernel) (by decide +kernel)
set_option maxRecDepth 20000 in
theorem gX3_depth_X3_isVertex : GoodIn wsX3_depth (wsV RX3 44 RX3 yX3_isVertex wsX3_isVertex) := goodIn_app (goodIn_of _ (by decide +kernel)) ggX3_depth_X3_isVertex
set_option maxRecDepth 20000 in
theorem ggX3_depth_X3_depthOf : GoodIn wsX3_depth wsX3_depthOf := goodIn_r _ [18, 19, 20, 21, 5, 22, 23, 24, 25, 26, 11, 27, 28, 29, 30, 31] (by decide +kernel) (by decide +kernel)
set_option maxRecDepth 20000 in
theorem gX3_depth_X3_depthOf : GoodIn wsX3_depth (wsV RX3 54 RX3 yX3_depthOf wsX3_depthOf) := goodIn_app (goodIn_of _ (by decide +kernel)) ggX3_depth_X3_depthOf
theorem dX3_depth_0 : decode cX3_depth 0 = .ok (.aload_n 0, 1) := by decide +kernel
theorem dX3_depth_1 : decode cX3_depth 1 = .ok (.iload_n 1, 1) := by decide +kernel
theorem dX3_depth_2 : decode cX3_depth 2 = .ok (.invokevirtual 44, 3) := by decide +kernel
theorem dX3_depth_5 : decode cX3_depth 5 = .ok (.ifCond .eq 11, 3) := by decide +kernel
theorem dX3_depth_8 : decode cX3_depth 8 = .ok (.aload_n 0, 1) := by decide +kernel
theorem dX3_depth_9 : decode cX3_depth 9 = .ok (.iload_n 1, 1) := by decide +kernel
theorem dX3_depth_10 : decode cX3_depth 10 = .ok (.invokevirtual 54, 3) := by decide +kernel
theorem dX3_depth_13 : decode cX3_depth 13 = .ok (.goto 5, 3) := by decide +kernel
theorem dX3_depth_16 : decode cX3_depth 16 = .ok (.ldc 47, 2) := by decide +kernel
theorem dX3_depth_18 : decode cX3_depth 18 = .ok (.ireturn, 1) := by decide +kernel
set_option maxRecDepth 20000 in
theorem ggX3_connected_X3_isVertex : GoodIn wsX3_connected wsX3_isVertex := goodIn_r _ [6, 7, 8, 9, 5, 10, 11, 12, 13, 14, 27, 28, 29, 30, 31] (by decide +kernel) (by decide +kernel)
set_option maxRecDepth 20000 in
theorem gX3_connected_X3_isVertex : GoodIn wsX3_connected (wsV RX3 44 RX3 yX3_isVertex wsX3_isVertex) := goodIn_app (goodIn_of _ (by decide +kernel)) ggX3_connected_X3_isVertex
set_option maxRecDepth 20000 in
theorem ggX3_connected_X3_rootOf : GoodIn wsX3_connected wsX3_rootOf := goodIn_r _ [18, 19, 20, 21, 5, 22, 23, 24, 25, 26, 11, 27, 28, 29, 30, 31] (by decide +kernel) (by decide +kernel)
set_option maxRecDepth 20000 in
theorem gX3_connected_X3_rootOf : GoodIn wsX3_connected (wsV RX3 49 RX3 yX3_rootOf wsX3_rootOf) := goodIn_app (goodIn_of _ (by decide +kernel)) ggX3_connected_X3_rootOf
theorem dX3_connected_0 : decode cX3_connected 0 = .ok (.aload_n 0, 1) := by decide +kernel
theorem dX3_connected_1 : decode cX3_connected 1 = .ok (.iload_n 1, 1) := by decide +kernel
theorem dX3_connected_2 : decode cX3_connected 2 = .ok (.invokevirtual 44, 3) := by decide +kernel
theorem dX3_connected_5 : decode cX3_connected 5 = .ok (.ifCond .eq 11, 3) := by decide +kernel
theorem dX3_connected_8 : decode cX3_connected 8 = .ok (.aload_n 0, 1) := by decide +kernel
theorem dX3_connected_9 : decode cX3_connected 9 = .ok (.iload_n 2, 1) := by decide +kernel
theorem dX3_connected_10 : decode cX3_connected 10 = .ok (.invokevirtual 44, 3) := by decide +kernel
theorem dX3_connected_13 : decode cX3_connected 13 = .ok (.ifCond .ne 6, 3) := by decide +kernel
theorem dX3_connected_16 : decode cX3_connected 16 = .ok (.ldc 47, 2) := by decide +kernel
theorem dX3_connected_18 : decode cX3_connected 18 = .ok (.ireturn, 1) := by decide +kernel
theorem dX3_connected_19 : decode cX3_connected 19 = .ok (.aload_n 0, 1) := by decide +kernel
theorem dX3_connected_20 : decode cX3_connected 20 = .ok (.iload_n 1, 1) := by decide +kernel
theorem dX3_connected_21 : decode cX3_connected 21 = .ok (.invokevirtual 49, 3) := by decide +kernel
theorem dX3_connected_24 : decode cX3_connected 24 = .ok (.aload_n 0, 1) := by decide +kernel
theorem dX3_connected_25 : decode cX3_connected 25 = .ok (.iload_n 2, 1) := by decide +kernel
theorem dX3_connected_26 : decode cX3_connected 26 = .ok (.invokevirtual 49, 3) := by decide +kernel
theorem dX3_connected_29 : decode cX3_connected 29 = .ok (.if_icmp .ne 7, 3) := by decide +kernel
theorem dX3_connected_32 : decode cX3_connected 32 = .ok (.iconst 1, 1) := by decide +kernel
theorem dX3_connected_33 : decode cX3_connected 33 = .ok (.goto 4, 3) := by decide +kernel
theorem dX3_connected_36 : decode cX3_connected 36 = .ok (.iconst 0, 1) := by decide +kernel
theorem dX3_connected_37 : decode cX3_connected 37 = .ok (.ireturn, 1) := by decide +kernel
set_option maxRecDepth 20000 in
theorem ggX3_wrongPair_X3_isVertex : GoodIn wsX3_wrongPair wsX3_isVertex := goodIn_r _ [7, 8, 9, 10, 6, 11, 12, 13, 14, 15, 28, 29, 30, 31, 32] (by decide +kernel) (by decide +kernel)
set_option maxRecDepth 20000 in
theorem gX3_wrongPair_X3_isVertex : GoodIn wsX3_wrongPair (wsV RX3 44 RX3 yX3_isVertex wsX3_isVertex) := goodIn_app (goodIn_of _ (by decide +kernel)) ggX3_wrongPair_X3_isVertex
set_option maxRecDepth 20000 in
theorem ggX3_wrongPair_X3_rootOf : GoodIn wsX3_wrongPair wsX3_rootOf := goodIn_r _ [19, 20, 21, 22, 6, 23, 24, 25, 26, 27, 12, 28, 29, 30, 31, 32] (by decide +kernel) (by decide +kernel)
set_option maxRecDepth 20000 in
theorem gX3_wrongPair_X3_rootOf : GoodIn wsX3_wrongPair (wsV RX3 49 RX3 yX3_rootOf wsX3_rootOf) := goodIn_app (goodIn_of _ (by decide +kernel)) ggX3_wrongPair_X3_rootOf
theorem dX3_wrongPair_0 : decode cX3_wrongPair 0 = .ok (.aload_n 0, 1) := by decide +kernel
theorem dX3_wrongPair_1 : decode cX3_wrongPair 1 = .ok (.iload_n 1, 1) := by decide +kernel
theorem dX3_wrongPair_2 : decode cX3_wrongPair 2 = .ok (.invokevirtual 44, 3) := by decide +kernel
theorem dX3_wrongPair_5 : decode cX3_wrongPair 5 = .ok (.ifCond .eq 11, 3) := by decide +kernel
theorem dX3_wrongPair_8 : decode cX3_wrongPair 8 = .ok (.aload_n 0, 1) := by decide +kernel
theorem dX3_wrongPair_9 : decode cX3_wrongPair 9 = .ok (.iload_n 2, 1) := by decide +kernel
theorem dX3_wrongPair_10 : decode cX3_wrongPair 10 = .ok (.invokevirtual 44, 3) := by decide +kernel
theorem dX3_wrongPair_13 : decode cX3_wrongPair 13 = .ok (.ifCond .ne 6, 3) := by decide +kernel
theorem dX3_wrongPair_16 : decode cX3_wrongPair 16 = .ok (.ldc 47, 2) := by decide +kernel
theorem dX3_wrongPair_18 : decode cX3_wrongPair 18 = .ok (.ireturn, 1) := by decide +kernel
theorem dX3_wrongPair_19 : decode cX3_wrongPair 19 = .ok (.aload_n 0, 1) := by decide +kernel
theorem dX3_wrongPair_20 : decode cX3_wrongPair 20 = .ok (.iload_n 1, 1) := by decide +kernel
theorem dX3_wrongPair_21 : decode cX3_wrongPair 21 = .ok (.invokevirtual 49, 3) := by decide +kernel
theorem dX3_wrongPair_24 : decode cX3_wrongPair 24 = .ok (.aload_n 0, 1) := by decide +kernel
theorem dX3_wrongPair_25 : decode cX3_wrongPair 25 = .ok (.iload_n 2, 1) := by decide +kernel
theorem dX3_wrongPair_26 : decode cX3_wrongPair 26 = .ok (.invokevirtual 49, 3) := by decide +kernel
theorem dX3_wrongPair_29 : decode cX3_wrongPair 29 = .ok (.if_icmp .ne 7, 3) := by decide +kernel
theorem dX3_wrongPair_32 : decode cX3_wrongPair 32 = .ok (.iconst 0, 1) := by decide +kernel
theorem dX3_wrongPair_33 : decode cX3_wrongPair 33 = .ok (.goto 5, 3) := by decide +kernel
theorem dX3_wrongPair_36 : decode cX3_wrongPair 36 = .ok (.ldc 57, 2) := by decide +kernel
theorem dX3_wrongPair_38 : decode cX3_wrongPair 38 = .ok (.ireturn, 1) := by decide +kernel
set_option maxRecDepth 20000 in
theorem ggX3_meetingOf_X3_depthOf : GoodIn wsX3_meetingOf wsX3_depthOf := goodIn_r _ [5, 6, 7, 8, 4, 9, 10, 11, 12, 13, 14, 15, 16, 17, 18, 19] (by decide +kernel) (by decide +kernel)
set_option maxRecDepth 20000 in
theorem gX3_meetingOf_X3_depthOf : GoodIn wsX3_meetingOf (wsV RX3 54 RX3 yX3_depthOf wsX3_depthOf) := goodIn_app (goodIn_of _ (by decide +kernel)) ggX3_meetingOf_X3_depthOf
set_option maxRecDepth 20000 in
theorem ggX3_meetingOf_X3_above : GoodIn wsX3_meetingOf wsX3_above := goodIn_r _ [13, 14, 15, 16, 17, 18, 19] (by decide +kernel) (by decide +kernel)
set_option maxRecDepth 20000 in
theorem gX3_meetingOf_X3_above : GoodIn wsX3_meetingOf (wsV RX3 35 RX3 yX3_above wsX3_above) := goodIn_app (goodIn_of _ (by decide +kernel)) ggX3_meetingOf_X3_above
theorem dX3_meetingOf_0 : decode cX3_meetingOf 0 = .ok (.iload_n 1, 1) := by decide +kernel
theorem dX3_meetingOf_1 : decode cX3_meetingOf 1 = .ok (.istore_n 3, 1) := by decide +kernel
theorem dX3_meetingOf_2 : decode cX3_meetingOf 2 = .ok (.iload_n 2, 1) := by decide +kernel
theorem dX3_meetingOf_3 : decode cX3_meetingOf 3 = .ok (.istore 4, 2) := by decide +kernel
theorem dX3_meetingOf_5 : decode cX3_meetingOf 5 = .ok (.iload_n 3, 1) := by decide +kernel
theorem dX3_meetingOf_6 : decode cX3_meetingOf 6 = .ok (.iload 4, 2) := by decide +kernel
theorem dX3_meetingOf_8 : decode cX3_meetingOf 8 = .ok (.if_icmp .eq 37, 3) := by decide +kernel
theorem dX3_meetingOf_11 : decode cX3_meetingOf 11 = .ok (.aload_n 0, 1) := by decide +kernel
theorem dX3_meetingOf_12 : decode cX3_meetingOf 12 = .ok (.iload_n 3, 1) := by decide +kernel
theorem dX3_meetingOf_13 : decode cX3_meetingOf 13 = .ok (.invokevirtual 54, 3) := by decide +kernel
theorem dX3_meetingOf_16 : decode cX3_meetingOf 16 = .ok (.aload_n 0, 1) := by decide +kernel
theorem dX3_meetingOf_17 : decode cX3_meetingOf 17 = .ok (.iload 4, 2) := by decide +kernel
theorem dX3_meetingOf_19 : decode cX3_meetingOf 19 = .ok (.invokevirtual 54, 3) := by decide +kernel
theorem dX3_meetingOf_22 : decode cX3_meetingOf 22 = .ok (.if_icmp .lt 12, 3) := by decide +kernel
theorem dX3_meetingOf_25 : decode cX3_meetingOf 25 = .ok (.aload_n 0, 1) := by decide +kernel
theorem dX3_meetingOf_26 : decode cX3_meetingOf 26 = .ok (.iload_n 3, 1) := by decide +kernel
theorem dX3_meetingOf_27 : decode cX3_meetingOf 27 = .ok (.invokevirtual 35, 3) := by decide +kernel
theorem dX3_meetingOf_30 : decode cX3_meetingOf 30 = .ok (.istore_n 3, 1) := by decide +kernel
theorem dX3_meetingOf_31 : decode cX3_meetingOf 31 = .ok (.goto (-26), 3) := by decide +kernel
theorem dX3_meetingOf_34 : decode cX3_meetingOf 34 = .ok (.aload_n 0, 1) := by decide +kernel
theorem dX3_meetingOf_35 : decode cX3_meetingOf 35 = .ok (.iload 4, 2) := by decide +kernel
theorem dX3_meetingOf_37 : decode cX3_meetingOf 37 = .ok (.invokevirtual 35, 3) := by decide +kernel
theorem dX3_meetingOf_40 : decode cX3_meetingOf 40 = .ok (.istore 4, 2) := by decide +kernel
theorem dX3_meetingOf_42 : decode cX3_meetingOf 42 = .ok (.goto (-37), 3) := by decide +kernel
theorem dX3_meetingOf_45 : decode cX3_meetingOf 45 = .ok (.iload_n 3, 1) := by decide +kernel
theorem dX3_meetingOf_46 : decode cX3_meetingOf 46 = .ok (.ireturn, 1) := by decide +kernel
set_option maxRecDepth 20000 in
theorem ggX3_layPath_X3_meetingOf : GoodIn wsX3_layPath wsX3_meetingOf := goodIn_r _ [7, 8, 9, 10, 6, 11, 12, 13, 14, 15, 16, 17, 18, 19, 20, 21, 22, 23, 24, 25] (by decide +kernel) (by decide +kernel)
set_option maxRecDepth 20000 in
theorem gX3_layPath_X3_meetingOf : GoodIn wsX3_layPath (wsV RX3 58 RX3 yX3_meetingOf wsX3_meetingOf) := goodIn_app (goodIn_of _ (by decide +kernel)) ggX3_layPath_X3_meetingOf
set_option maxRecDepth 20000 in
theorem ggX3_layPath_X3_above : GoodIn wsX3_layPath wsX3_above := goodIn_r _ [19, 20, 21, 22, 23, 24, 25] (by decide +kernel) (by decide +kernel)
set_option maxRecDepth 20000 in
theorem gX3_layPath_X3_above : GoodIn wsX3_layPath (wsV RX3 35 RX3 yX3_above wsX3_above) := goodIn_app (goodIn_of _ (by decide +kernel)) ggX3_layPath_X3_above
set_option maxRecDepth 20000 in
theorem ggX3_layPath_X3_depthOf : GoodIn wsX3_layPath wsX3_depthOf := goodIn_r _ [11, 12, 13, 14, 6, 15, 16, 17, 18, 19, 20, 21, 22, 23, 24, 25] (by decide +kernel) (by decide +kernel)
set_option maxRecDepth 20000 in
theorem gX3_layPath_X3_depthOf : GoodIn wsX3_layPath (wsV RX3 54 RX3 yX3_depthOf wsX3_depthOf) := goodIn_app (goodIn_of _ (by decide +kernel)) ggX3_layPath_X3_depthOf
theorem dX3_layPath_0 : decode cX3_layPath 0 = .ok (.aload_n 0, 1) := by decide +kernel
theorem dX3_layPath_1 : decode cX3_layPath 1 = .ok (.iload_n 1, 1) := by decide +kernel
theorem dX3_layPath_2 : decode cX3_layPath 2 = .ok (.iload_n 2, 1) := by decide +kernel
theorem dX3_layPath_3 : decode cX3_layPath 3 = .ok (.invokevirtual 58, 3) := by decide +kernel
theorem dX3_layPath_6 : decode cX3_layPath 6 = .ok (.istore_n 3, 1) := by decide +kernel
theorem dX3_layPath_7 : decode cX3_layPath 7 = .ok (.aload_n 0, 1) := by decide +kernel
theorem dX3_layPath_8 : decode cX3_layPath 8 = .ok (.iconst 0, 1) := by decide +kernel
theorem dX3_layPath_9 : decode cX3_layPath 9 = .ok (.putfield 62, 3) := by decide +kernel
theorem dX3_layPath_12 : decode cX3_layPath 12 = .ok (.iload_n 1, 1) := by decide +kernel
theorem dX3_layPath_13 : decode cX3_layPath 13 = .ok (.istore 4, 2) := by decide +kernel
theorem dX3_layPath_15 : decode cX3_layPath 15 = .ok (.iload 4, 2) := by decide +kernel
theorem dX3_layPath_17 : decode cX3_layPath 17 = .ok (.iload_n 3, 1) := by decide +kernel
theorem dX3_layPath_18 : decode cX3_layPath 18 = .ok (.if_icmp .eq 35, 3) := by decide +kernel
theorem dX3_layPath_21 : decode cX3_layPath 21 = .ok (.aload_n 0, 1) := by decide +kernel
theorem dX3_layPath_22 : decode cX3_layPath 22 = .ok (.getfield 20, 3) := by decide +kernel
theorem dX3_layPath_25 : decode cX3_layPath 25 = .ok (.aload_n 0, 1) := by decide +kernel
theorem dX3_layPath_26 : decode cX3_layPath 26 = .ok (.getfield 62, 3) := by decide +kernel
theorem dX3_layPath_29 : decode cX3_layPath 29 = .ok (.iload 4, 2) := by decide +kernel
theorem dX3_layPath_31 : decode cX3_layPath 31 = .ok (.iastore, 1) := by decide +kernel
theorem dX3_layPath_32 : decode cX3_layPath 32 = .ok (.aload_n 0, 1) := by decide +kernel
theorem dX3_layPath_33 : decode cX3_layPath 33 = .ok (.dup, 1) := by decide +kernel
theorem dX3_layPath_34 : decode cX3_layPath 34 = .ok (.getfield 62, 3) := by decide +kernel
theorem dX3_layPath_37 : decode cX3_layPath 37 = .ok (.iconst 1, 1) := by decide +kernel
theorem dX3_layPath_38 : decode cX3_layPath 38 = .ok (.iadd, 1) := by decide +kernel
theorem dX3_layPath_39 : decode cX3_layPath 39 = .ok (.putfield 62, 3) := by decide +kernel
theorem dX3_layPath_42 : decode cX3_layPath 42 = .ok (.aload_n 0, 1) := by decide +kernel
theorem dX3_layPath_43 : decode cX3_layPath 43 = .ok (.iload 4, 2) := by decide +kernel
theorem dX3_layPath_45 : decode cX3_layPath 45 = .ok (.invokevirtual 35, 3) := by decide +kernel
theorem dX3_layPath_48 : decode cX3_layPath 48 = .ok (.istore 4, 2) := by decide +kernel
theorem dX3_layPath_50 : decode cX3_layPath 50 = .ok (.goto (-35), 3) := by decide +kernel
theorem dX3_layPath_53 : decode cX3_layPath 53 = .ok (.aload_n 0, 1) := by decide +kernel
theorem dX3_layPath_54 : decode cX3_layPath 54 = .ok (.getfield 20, 3) := by decide +kernel
theorem dX3_layPath_57 : decode cX3_layPath 57 = .ok (.aload_n 0, 1) := by decide +kernel
theorem dX3_layPath_58 : decode cX3_layPath 58 = .ok (.getfield 62, 3) := by decide +kernel
theorem dX3_layPath_61 : decode cX3_layPath 61 = .ok (.iload_n 3, 1) := by decide +kernel
theorem dX3_layPath_62 : decode cX3_layPath 62 = .ok (.iastore, 1) := by decide +kernel
theorem dX3_layPath_63 : decode cX3_layPath 63 = .ok (.aload_n 0, 1) := by decide +kernel
theorem dX3_layPath_64 : decode cX3_layPath 64 = .ok (.dup, 1) := by decide +kernel
theorem dX3_layPath_65 : decode cX3_layPath 65 = .ok (.getfield 62, 3) := by decide +kernel
theorem dX3_layPath_68 : decode cX3_layPath 68 = .ok (.iconst 1, 1) := by decide +kernel
theorem dX3_layPath_69 : decode cX3_layPath 69 = .ok (.aload_n 0, 1) := by decide +kernel
theorem dX3_layPath_70 : decode cX3_layPath 70 = .ok (.iload_n 2, 1) := by decide +kernel
theorem dX3_layPath_71 : decode cX3_layPath 71 = .ok (.invokevirtual 54, 3) := by decide +kernel
theorem dX3_layPath_74 : decode cX3_layPath 74 = .ok (.iadd, 1) := by decide +kernel
theorem dX3_layPath_75 : decode cX3_layPath 75 = .ok (.aload_n 0, 1) := by decide +kernel
theorem dX3_layPath_76 : decode cX3_layPath 76 = .ok (.iload_n 3, 1) := by decide +kernel
theorem dX3_layPath_77 : decode cX3_layPath 77 = .ok (.invokevirtual 54, 3) := by decide +kernel
theorem dX3_layPath_80 : decode cX3_layPath 80 = .ok (.isub, 1) := by decide +kernel
theorem dX3_layPath_81 : decode cX3_layPath 81 = .ok (.iadd, 1) := by decide +kernel
theorem dX3_layPath_82 : decode cX3_layPath 82 = .ok (.putfield 62, 3) := by decide +kernel
theorem dX3_layPath_85 : decode cX3_layPath 85 = .ok (.aload_n 0, 1) := by decide +kernel
theorem dX3_layPath_86 : decode cX3_layPath 86 = .ok (.getfield 62, 3) := by decide +kernel
theorem dX3_layPath_89 : decode cX3_layPath 89 = .ok (.iconst 1, 1) := by decide +kernel
theorem dX3_layPath_90 : decode cX3_layPath 90 = .ok (.isub, 1) := by decide +kernel
theorem dX3_layPath_91 : decode cX3_layPath 91 = .ok (.istore 4, 2) := by decide +kernel
theorem dX3_layPath_93 : decode cX3_layPath 93 = .ok (.iload_n 2, 1) := by decide +kernel
theorem dX3_layPath_94 : decode cX3_layPath 94 = .ok (.istore 5, 2) := by decide +kernel
theorem dX3_layPath_96 : decode cX3_layPath 96 = .ok (.iload 5, 2) := by decide +kernel
theorem dX3_layPath_98 : decode cX3_layPath 98 = .ok (.iload_n 3, 1) := by decide +kernel
theorem dX3_layPath_99 : decode cX3_layPath 99 = .ok (.if_icmp .eq 26, 3) := by decide +kernel
theorem dX3_layPath_102 : decode cX3_layPath 102 = .ok (.aload_n 0, 1) := by decide +kernel
theorem dX3_layPath_103 : decode cX3_layPath 103 = .ok (.getfield 20, 3) := by decide +kernel
theorem dX3_layPath_106 : decode cX3_layPath 106 = .ok (.iload 4, 2) := by decide +kernel
theorem dX3_layPath_108 : decode cX3_layPath 108 = .ok (.iload 5, 2) := by decide +kernel
theorem dX3_layPath_110 : decode cX3_layPath 110 = .ok (.iastore, 1) := by decide +kernel
theorem dX3_layPath_111 : decode cX3_layPath 111 = .ok (.iinc 4 (-1), 3) := by decide +kernel
theorem dX3_layPath_114 : decode cX3_layPath 114 = .ok (.aload_n 0, 1) := by decide +kernel
theorem dX3_layPath_115 : decode cX3_layPath 115 = .ok (.iload 5, 2) := by decide +kernel
theorem dX3_layPath_117 : decode cX3_layPath 117 = .ok (.invokevirtual 35, 3) := by decide +kernel
theorem dX3_layPath_120 : decode cX3_layPath 120 = .ok (.istore 5, 2) := by decide +kernel
theorem dX3_layPath_122 : decode cX3_layPath 122 = .ok (.goto (-26), 3) := by decide +kernel
theorem dX3_layPath_125 : decode cX3_layPath 125 = .ok (.return_, 1) := by decide +kernel
set_option maxRecDepth 20000 in
theorem ggX3_commonAncestor_X3_wrongPair : GoodIn wsX3_commonAncestor wsX3_wrongPair := goodIn_r _ [5, 6, 7, 8, 9, 10, 4, 11, 12, 13, 14, 15, 16, 17, 18, 19, 20, 21, 22, 23, 24, 25, 26, 27, 28, 29, 30, 31, 40, 41, 42, 43, 44] (by decide +kernel) (by decide +kernel)
set_option maxRecDepth 20000 in
theorem gX3_commonAncestor_X3_wrongPair : GoodIn wsX3_commonAncestor (wsV RX3 66 RX3 yX3_wrongPair wsX3_wrongPair) := goodIn_app (goodIn_of _ (by decide +kernel)) ggX3_commonAncestor_X3_wrongPair
set_option maxRecDepth 20000 in
theorem ggX3_commonAncestor_X3_meetingOf : GoodIn wsX3_commonAncestor wsX3_meetingOf := goodIn_r _ [35, 36, 37, 38, 4, 39, 24, 25, 26, 27, 28, 29, 30, 31, 16, 40, 41, 42, 43, 44] (by decide +kernel) (by decide +kernel)
set_option maxRecDepth 20000 in
theorem gX3_commonAncestor_X3_meetingOf : GoodIn wsX3_commonAncestor (wsV RX3 58 RX3 yX3_meetingOf wsX3_meetingOf) := goodIn_app (goodIn_of _ (by decide +kernel)) ggX3_commonAncestor_X3_meetingOf
theorem dX3_commonAncestor_0 : decode cX3_commonAncestor 0 = .ok (.aload_n 0, 1) := by decide +kernel
theorem dX3_commonAncestor_1 : decode cX3_commonAncestor 1 = .ok (.iload_n 1, 1) := by decide +kernel
theorem dX3_commonAncestor_2 : decode cX3_commonAncestor 2 = .ok (.iload_n 2, 1) := by decide +kernel
theorem dX3_commonAncestor_3 : decode cX3_commonAncestor 3 = .ok (.invokevirtual 66, 3) := by decide +kernel
theorem dX3_commonAncestor_6 : decode cX3_commonAncestor 6 = .ok (.istore_n 3, 1) := by decide +kernel
theorem dX3_commonAncestor_7 : decode cX3_commonAncestor 7 = .ok (.iload_n 3, 1) := by decide +kernel
theorem dX3_commonAncestor_8 : decode cX3_commonAncestor 8 = .ok (.ifCond .eq 7, 3) := by decide +kernel
theorem dX3_commonAncestor_11 : decode cX3_commonAncestor 11 = .ok (.iload_n 3, 1) := by decide +kernel
theorem dX3_commonAncestor_12 : decode cX3_commonAncestor 12 = .ok (.goto 9, 3) := by decide +kernel
theorem dX3_commonAncestor_15 : decode cX3_commonAncestor 15 = .ok (.aload_n 0, 1) := by decide +kernel
theorem dX3_commonAncestor_16 : decode cX3_commonAncestor 16 = .ok (.iload_n 1, 1) := by decide +kernel
theorem dX3_commonAncestor_17 : decode cX3_commonAncestor 17 = .ok (.iload_n 2, 1) := by decide +kernel
theorem dX3_commonAncestor_18 : decode cX3_commonAncestor 18 = .ok (.invokevirtual 58, 3) := by decide +kernel
theorem dX3_commonAncestor_21 : decode cX3_commonAncestor 21 = .ok (.ireturn, 1) := by decide +kernel
set_option maxRecDepth 20000 in
theorem ggX3_distanceOf_X3_depthOf : GoodIn wsX3_distanceOf wsX3_depthOf := goodIn_r _ [5, 6, 7, 8, 4, 9, 10, 11, 12, 13, 14, 19, 20, 21, 22, 23] (by decide +kernel) (by decide +kernel)
set_option maxRecDepth 20000 in
theorem gX3_distanceOf_X3_depthOf : GoodIn wsX3_distanceOf (wsV RX3 54 RX3 yX3_depthOf wsX3_depthOf) := goodIn_app (goodIn_of _ (by decide +kernel)) ggX3_distanceOf_X3_depthOf
set_option maxRecDepth 20000 in
theorem ggX3_distanceOf_X3_meetingOf : GoodIn wsX3_distanceOf wsX3_meetingOf := goodIn_r _ [18, 1, 2, 3, 4, 5, 6, 7, 8, 9, 10, 11, 12, 13, 14, 19, 20, 21, 22, 23] (by decide +kernel) (by decide +kernel)
set_option maxRecDepth 20000 in
theorem gX3_distanceOf_X3_meetingOf : GoodIn wsX3_distanceOf (wsV RX3 58 RX3 yX3_meetingOf wsX3_meetingOf) := goodIn_app (goodIn_of _ (by decide +kernel)) ggX3_distanceOf_X3_meetingOf
theorem dX3_distanceOf_0 : decode cX3_distanceOf 0 = .ok (.aload_n 0, 1) := by decide +kernel
theorem dX3_distanceOf_1 : decode cX3_distanceOf 1 = .ok (.iload_n 1, 1) := by decide +kernel
theorem dX3_distanceOf_2 : decode cX3_distanceOf 2 = .ok (.invokevirtual 54, 3) := by decide +kernel
theorem dX3_distanceOf_5 : decode cX3_distanceOf 5 = .ok (.aload_n 0, 1) := by decide +kernel
theorem dX3_distanceOf_6 : decode cX3_distanceOf 6 = .ok (.iload_n 2, 1) := by decide +kernel
theorem dX3_distanceOf_7 : decode cX3_distanceOf 7 = .ok (.invokevirtual 54, 3) := by decide +kernel
theorem dX3_distanceOf_10 : decode cX3_distanceOf 10 = .ok (.iadd, 1) := by decide +kernel
theorem dX3_distanceOf_11 : decode cX3_distanceOf 11 = .ok (.iconst 2, 1) := by decide +kernel
theorem dX3_distanceOf_12 : decode cX3_distanceOf 12 = .ok (.aload_n 0, 1) := by decide +kernel
theorem dX3_distanceOf_13 : decode cX3_distanceOf 13 = .ok (.aload_n 0, 1) := by decide +kernel
theorem dX3_distanceOf_14 : decode cX3_distanceOf 14 = .ok (.iload_n 1, 1) := by decide +kernel
theorem dX3_distanceOf_15 : decode cX3_distanceOf 15 = .ok (.iload_n 2, 1) := by decide +kernel
theorem dX3_distanceOf_16 : decode cX3_distanceOf 16 = .ok (.invokevirtual 58, 3) := by decide +kernel
theorem dX3_distanceOf_19 : decode cX3_distanceOf 19 = .ok (.invokevirtual 54, 3) := by decide +kernel
theorem dX3_distanceOf_22 : decode cX3_distanceOf 22 = .ok (.imul, 1) := by decide +kernel
theorem dX3_distanceOf_23 : decode cX3_distanceOf 23 = .ok (.isub, 1) := by decide +kernel
theorem dX3_distanceOf_24 : decode cX3_distanceOf 24 = .ok (.ireturn, 1) := by decide +kernel
set_option maxRecDepth 20000 in
theorem ggX3_distance_X3_wrongPair : GoodIn wsX3_distance wsX3_wrongPair := goodIn_r _ [5, 6, 7, 8, 9, 10, 4, 11, 12, 13, 14, 15, 16, 17, 18, 19, 20, 21, 22, 23, 24, 25, 26, 27, 28, 29, 30, 31, 44, 45, 46, 47, 48] (by decide +kernel) (by decide +kernel)
set_option maxRecDepth 20000 in
theorem gX3_distance_X3_wrongPair : GoodIn wsX3_distance (wsV RX3 66 RX3 yX3_wrongPair wsX3_wrongPair) := goodIn_app (goodIn_of _ (by decide +kernel)) ggX3_distance_X3_wrongPair
set_option maxRecDepth 20000 in
theorem ggX3_distance_X3_distanceOf : GoodIn wsX3_distance wsX3_distanceOf := goodIn_r _ [35, 36, 37, 38, 4, 39, 24, 25, 26, 27, 28, 29, 30, 31, 16, 40, 41, 42, 43, 44, 45, 46, 47, 48] (by decide +kernel) (by decide +kernel)
set_option maxRecDepth 20000 in
theorem gX3_distance_X3_distanceOf : GoodIn wsX3_distance (wsV RX3 69 RX3 yX3_distanceOf wsX3_distanceOf) := goodIn_app (goodIn_of _ (by decide +kernel)) ggX3_distance_X3_distanceOf
theorem dX3_distance_0 : decode cX3_distance 0 = .ok (.aload_n 0, 1) := by decide +kernel
theorem dX3_distance_1 : decode cX3_distance 1 = .ok (.iload_n 1, 1) := by decide +kernel
theorem dX3_distance_2 : decode cX3_distance 2 = .ok (.iload_n 2, 1) := by decide +kernel
theorem dX3_distance_3 : decode cX3_distance 3 = .ok (.invokevirtual 66, 3) := by decide +kernel
theorem dX3_distance_6 : decode cX3_distance 6 = .ok (.istore_n 3, 1) := by decide +kernel
theorem dX3_distance_7 : decode cX3_distance 7 = .ok (.iload_n 3, 1) := by decide +kernel
theorem dX3_distance_8 : decode cX3_distance 8 = .ok (.ifCond .eq 7, 3) := by decide +kernel
theorem dX3_distance_11 : decode cX3_distance 11 = .ok (.iload_n 3, 1) := by decide +kernel
theorem dX3_distance_12 : decode cX3_distance 12 = .ok (.goto 9, 3) := by decide +kernel
theorem dX3_distance_15 : decode cX3_distance 15 = .ok (.aload_n 0, 1) := by decide +kernel
theorem dX3_distance_16 : decode cX3_distance 16 = .ok (.iload_n 1, 1) := by decide +kernel
theorem dX3_distance_17 : decode cX3_distance 17 = .ok (.iload_n 2, 1) := by decide +kernel
theorem dX3_distance_18 : decode cX3_distance 18 = .ok (.invokevirtual 69, 3) := by decide +kernel
theorem dX3_distance_21 : decode cX3_distance 21 = .ok (.ireturn, 1) := by decide +kernel
set_option maxRecDepth 20000 in
theorem ggX3_pathVertex_X3_wrongPair : GoodIn wsX3_pathVertex wsX3_wrongPair := goodIn_r _ [8, 9, 10, 11, 12, 13, 7, 14, 15, 16, 17, 18, 19, 20, 21, 22, 23, 24, 25, 26, 27, 28, 29, 30, 31, 32, 33, 34, 47, 48, 49, 50, 51] (by decide +kernel) (by decide +kernel)
set_option maxRecDepth 20000 in
theorem gX3_pathVertex_X3_wrongPair : GoodIn wsX3_pathVertex (wsV RX3 66 RX3 yX3_wrongPair wsX3_wrongPair) := goodIn_app (goodIn_of _ (by decide +kernel)) ggX3_pathVertex_X3_wrongPair
set_option maxRecDepth 20000 in
theorem ggX3_pathVertex_X3_layPath : GoodIn wsX3_pathVertex wsX3_layPath := goodIn_r _ [38, 1, 2, 39, 40, 41, 7, 42, 43, 44, 45, 46, 27, 28, 29, 30, 31, 32, 33, 34, 19, 47, 48, 49, 50, 51] (by decide +kernel) (by decide +kernel)
set_option maxRecDepth 20000 in
theorem gX3_pathVertex_X3_layPath : GoodIn wsX3_pathVertex (wsV RX3 72 RX3 yX3_layPath wsX3_layPath) := goodIn_app (goodIn_of _ (by decide +kernel)) ggX3_pathVertex_X3_layPath
set_option maxRecDepth 20000 in
theorem ggX3_pathVertex_X3_in : GoodIn wsX3_pathVertex wsX3_in := goodIn_r _ [22] (by decide +kernel) (by decide +kernel)
set_option maxRecDepth 20000 in
theorem gX3_pathVertex_X3_in : GoodIn wsX3_pathVertex (va_wsS RX3 31 yX3_in wsX3_in) := goodIn_app (goodIn_of _ (by decide +kernel)) ggX3_pathVertex_X3_in
theorem dX3_pathVertex_0 : decode cX3_pathVertex 0 = .ok (.aload_n 0, 1) := by decide +kernel
theorem dX3_pathVertex_1 : decode cX3_pathVertex 1 = .ok (.iload_n 1, 1) := by decide +kernel
theorem dX3_pathVertex_2 : decode cX3_pathVertex 2 = .ok (.iload_n 2, 1) := by decide +kernel
theorem dX3_pathVertex_3 : decode cX3_pathVertex 3 = .ok (.invokevirtual 66, 3) := by decide +kernel
theorem dX3_pathVertex_6 : decode cX3_pathVertex 6 = .ok (.istore 4, 2) := by decide +kernel
theorem dX3_pathVertex_8 : decode cX3_pathVertex 8 = .ok (.iload 4, 2) := by decide +kernel
theorem dX3_pathVertex_10 : decode cX3_pathVertex 10 = .ok (.ifCond .eq 6, 3) := by decide +kernel
theorem dX3_pathVertex_13 : decode cX3_pathVertex 13 = .ok (.iload 4, 2) := by decide +kernel
theorem dX3_pathVertex_15 : decode cX3_pathVertex 15 = .ok (.ireturn, 1) := by decide +kernel
theorem dX3_pathVertex_16 : decode cX3_pathVertex 16 = .ok (.aload_n 0, 1) := by decide +kernel
theorem dX3_pathVertex_17 : decode cX3_pathVertex 17 = .ok (.iload_n 1, 1) := by decide +kernel
theorem dX3_pathVertex_18 : decode cX3_pathVertex 18 = .ok (.iload_n 2, 1) := by decide +kernel
theorem dX3_pathVertex_19 : decode cX3_pathVertex 19 = .ok (.invokevirtual 72, 3) := by decide +kernel
theorem dX3_pathVertex_22 : decode cX3_pathVertex 22 = .ok (.iload_n 3, 1) := by decide +kernel
theorem dX3_pathVertex_23 : decode cX3_pathVertex 23 = .ok (.iconst 0, 1) := by decide +kernel
theorem dX3_pathVertex_24 : decode cX3_pathVertex 24 = .ok (.aload_n 0, 1) := by decide +kernel
theorem dX3_pathVertex_25 : decode cX3_pathVertex 25 = .ok (.getfield 62, 3) := by decide +kernel
theorem dX3_pathVertex_28 : decode cX3_pathVertex 28 = .ok (.iconst 1, 1) := by decide +kernel
theorem dX3_pathVertex_29 : decode cX3_pathVertex 29 = .ok (.isub, 1) := by decide +kernel
theorem dX3_pathVertex_30 : decode cX3_pathVertex 30 = .ok (.invokestatic 31, 3) := by decide +kernel
theorem dX3_pathVertex_33 : decode cX3_pathVertex 33 = .ok (.ifCond .eq 12, 3) := by decide +kernel
theorem dX3_pathVertex_36 : decode cX3_pathVertex 36 = .ok (.aload_n 0, 1) := by decide +kernel
theorem dX3_pathVertex_37 : decode cX3_pathVertex 37 = .ok (.getfield 20, 3) := by decide +kernel
theorem dX3_pathVertex_40 : decode cX3_pathVertex 40 = .ok (.iload_n 3, 1) := by decide +kernel
theorem dX3_pathVertex_41 : decode cX3_pathVertex 41 = .ok (.iaload, 1) := by decide +kernel
theorem dX3_pathVertex_42 : decode cX3_pathVertex 42 = .ok (.goto 5, 3) := by decide +kernel
theorem dX3_pathVertex_45 : decode cX3_pathVertex 45 = .ok (.ldc 53, 2) := by decide +kernel
theorem dX3_pathVertex_47 : decode cX3_pathVertex 47 = .ok (.ireturn, 1) := by decide +kernel
set_option maxRecDepth 20000 in
theorem ggX3_pathSum_X3_wrongPair : GoodIn wsX3_pathSum wsX3_wrongPair := goodIn_r _ [7, 8, 9, 10, 11, 12, 6, 13, 14, 15, 16, 17, 18, 19, 20, 21, 22, 23, 24, 25, 26, 27, 28, 29, 30, 31, 32, 33, 50, 51, 52, 53, 54] (by decide +kernel) (by decide +kernel)
set_option maxRecDepth 20000 in
theorem gX3_pathSum_X3_wrongPair : GoodIn wsX3_pathSum (wsV RX3 66 RX3 yX3_wrongPair wsX3_wrongPair) := goodIn_app (goodIn_of _ (by decide +kernel)) ggX3_pathSum_X3_wrongPair
set_option maxRecDepth 20000 in
theorem ggX3_pathSum_X3_layPath : GoodIn wsX3_pathSum wsX3_layPath := goodIn_r _ [37, 1, 2, 38, 39, 40, 6, 41, 42, 43, 44, 45, 26, 27, 28, 29, 30, 31, 32, 33, 18, 50, 51, 52, 53, 54] (by decide +kernel) (by decide +kernel)
set_option maxRecDepth 20000 in
theorem gX3_pathSum_X3_layPath : GoodIn wsX3_pathSum (wsV RX3 72 RX3 yX3_layPath wsX3_layPath) := goodIn_app (goodIn_of _ (by decide +kernel)) ggX3_pathSum_X3_layPath
set_option maxRecDepth 20000 in
theorem ggX3_pathSum_X3_valueOf : GoodIn wsX3_pathSum wsX3_valueOf := goodIn_r _ [49, 18, 50, 51, 52, 53, 54] (by decide +kernel) (by decide +kernel)
set_option maxRecDepth 20000 in
theorem gX3_pathSum_X3_valueOf : GoodIn wsX3_pathSum (wsV RX3 76 RX3 yX3_valueOf wsX3_valueOf) := goodIn_app (goodIn_of _ (by decide +kernel)) ggX3_pathSum_X3_valueOf
theorem dX3_pathSum_0 : decode cX3_pathSum 0 = .ok (.aload_n 0, 1) := by decide +kernel
theorem dX3_pathSum_1 : decode cX3_pathSum 1 = .ok (.iload_n 1, 1) := by decide +kernel
theorem dX3_pathSum_2 : decode cX3_pathSum 2 = .ok (.iload_n 2, 1) := by decide +kernel
theorem dX3_pathSum_3 : decode cX3_pathSum 3 = .ok (.invokevirtual 66, 3) := by decide +kernel
theorem dX3_pathSum_6 : decode cX3_pathSum 6 = .ok (.istore_n 3, 1) := by decide +kernel
theorem dX3_pathSum_7 : decode cX3_pathSum 7 = .ok (.iload_n 3, 1) := by decide +kernel
theorem dX3_pathSum_8 : decode cX3_pathSum 8 = .ok (.ifCond .eq 5, 3) := by decide +kernel
theorem dX3_pathSum_11 : decode cX3_pathSum 11 = .ok (.iload_n 3, 1) := by decide +kernel
theorem dX3_pathSum_12 : decode cX3_pathSum 12 = .ok (.ireturn, 1) := by decide +kernel
theorem dX3_pathSum_13 : decode cX3_pathSum 13 = .ok (.aload_n 0, 1) := by decide +kernel
theorem dX3_pathSum_14 : decode cX3_pathSum 14 = .ok (.iload_n 1, 1) := by decide +kernel
theorem dX3_pathSum_15 : decode cX3_pathSum 15 = .ok (.iload_n 2, 1) := by decide +kernel
theorem dX3_pathSum_16 : decode cX3_pathSum 16 = .ok (.invokevirtual 72, 3) := by decide +kernel
theorem dX3_pathSum_19 : decode cX3_pathSum 19 = .ok (.iconst 0, 1) := by decide +kernel
theorem dX3_pathSum_20 : decode cX3_pathSum 20 = .ok (.istore 4, 2) := by decide +kernel
theorem dX3_pathSum_22 : decode cX3_pathSum 22 = .ok (.iconst 0, 1) := by decide +kernel
theorem dX3_pathSum_23 : decode cX3_pathSum 23 = .ok (.istore 5, 2) := by decide +kernel
theorem dX3_pathSum_25 : decode cX3_pathSum 25 = .ok (.iload 5, 2) := by decide +kernel
theorem dX3_pathSum_27 : decode cX3_pathSum 27 = .ok (.aload_n 0, 1) := by decide +kernel
theorem dX3_pathSum_28 : decode cX3_pathSum 28 = .ok (.getfield 62, 3) := by decide +kernel
theorem dX3_pathSum_31 : decode cX3_pathSum 31 = .ok (.if_icmp .ge 25, 3) := by decide +kernel
theorem dX3_pathSum_34 : decode cX3_pathSum 34 = .ok (.iload 4, 2) := by decide +kernel
theorem dX3_pathSum_36 : decode cX3_pathSum 36 = .ok (.aload_n 0, 1) := by decide +kernel
theorem dX3_pathSum_37 : decode cX3_pathSum 37 = .ok (.aload_n 0, 1) := by decide +kernel
theorem dX3_pathSum_38 : decode cX3_pathSum 38 = .ok (.getfield 20, 3) := by decide +kernel
theorem dX3_pathSum_41 : decode cX3_pathSum 41 = .ok (.iload 5, 2) := by decide +kernel
theorem dX3_pathSum_43 : decode cX3_pathSum 43 = .ok (.iaload, 1) := by decide +kernel
theorem dX3_pathSum_44 : decode cX3_pathSum 44 = .ok (.invokevirtual 76, 3) := by decide +kernel
theorem dX3_pathSum_47 : decode cX3_pathSum 47 = .ok (.iadd, 1) := by decide +kernel
theorem dX3_pathSum_48 : decode cX3_pathSum 48 = .ok (.istore 4, 2) := by decide +kernel
theorem dX3_pathSum_50 : decode cX3_pathSum 50 = .ok (.iinc 5 1, 3) := by decide +kernel
theorem dX3_pathSum_53 : decode cX3_pathSum 53 = .ok (.goto (-28), 3) := by decide +kernel
theorem dX3_pathSum_56 : decode cX3_pathSum 56 = .ok (.iload 4, 2) := by decide +kernel
theorem dX3_pathSum_58 : decode cX3_pathSum 58 = .ok (.ireturn, 1) := by decide +kernel
set_option maxRecDepth 20000 in
theorem ggX3_farthest_X3_valueOf : GoodIn wsX3_farthest wsX3_valueOf := goodIn_r _ [7, 8, 9, 10, 11, 12, 13] (by decide +kernel) (by decide +kernel)
set_option maxRecDepth 20000 in
theorem gX3_farthest_X3_valueOf : GoodIn wsX3_farthest (wsV RX3 76 RX3 yX3_valueOf wsX3_valueOf) := goodIn_app (goodIn_of _ (by decide +kernel)) ggX3_farthest_X3_valueOf
theorem dX3_farthest_0 : decode cX3_farthest 0 = .ok (.aload_n 0, 1) := by decide +kernel
theorem dX3_farthest_1 : decode cX3_farthest 1 = .ok (.getfield 20, 3) := by decide +kernel
theorem dX3_farthest_4 : decode cX3_farthest 4 = .ok (.iconst 0, 1) := by decide +kernel
theorem dX3_farthest_5 : decode cX3_farthest 5 = .ok (.iaload, 1) := by decide +kernel
theorem dX3_farthest_6 : decode cX3_farthest 6 = .ok (.istore_n 2, 1) := by decide +kernel
theorem dX3_farthest_7 : decode cX3_farthest 7 = .ok (.iconst 1, 1) := by decide +kernel
theorem dX3_farthest_8 : decode cX3_farthest 8 = .ok (.istore_n 3, 1) := by decide +kernel
theorem dX3_farthest_9 : decode cX3_farthest 9 = .ok (.iload_n 3, 1) := by decide +kernel
theorem dX3_farthest_10 : decode cX3_farthest 10 = .ok (.aload_n 0, 1) := by decide +kernel
theorem dX3_farthest_11 : decode cX3_farthest 11 = .ok (.getfield 62, 3) := by decide +kernel
theorem dX3_farthest_14 : decode cX3_farthest 14 = .ok (.if_icmp .ge 42, 3) := by decide +kernel
theorem dX3_farthest_17 : decode cX3_farthest 17 = .ok (.iload_n 1, 1) := by decide +kernel
theorem dX3_farthest_18 : decode cX3_farthest 18 = .ok (.aload_n 0, 1) := by decide +kernel
theorem dX3_farthest_19 : decode cX3_farthest 19 = .ok (.aload_n 0, 1) := by decide +kernel
theorem dX3_farthest_20 : decode cX3_farthest 20 = .ok (.getfield 20, 3) := by decide +kernel
theorem dX3_farthest_23 : decode cX3_farthest 23 = .ok (.iload_n 3, 1) := by decide +kernel
theorem dX3_farthest_24 : decode cX3_farthest 24 = .ok (.iaload, 1) := by decide +kernel
theorem dX3_farthest_25 : decode cX3_farthest 25 = .ok (.invokevirtual 76, 3) := by decide +kernel
theorem dX3_farthest_28 : decode cX3_farthest 28 = .ok (.imul, 1) := by decide +kernel
theorem dX3_farthest_29 : decode cX3_farthest 29 = .ok (.iload_n 1, 1) := by decide +kernel
theorem dX3_farthest_30 : decode cX3_farthest 30 = .ok (.aload_n 0, 1) := by decide +kernel
theorem dX3_farthest_31 : decode cX3_farthest 31 = .ok (.iload_n 2, 1) := by decide +kernel
theorem dX3_farthest_32 : decode cX3_farthest 32 = .ok (.invokevirtual 76, 3) := by decide +kernel
theorem dX3_farthest_35 : decode cX3_farthest 35 = .ok (.imul, 1) := by decide +kernel
theorem dX3_farthest_36 : decode cX3_farthest 36 = .ok (.if_icmp .le 12, 3) := by decide +kernel
theorem dX3_farthest_39 : decode cX3_farthest 39 = .ok (.aload_n 0, 1) := by decide +kernel
theorem dX3_farthest_40 : decode cX3_farthest 40 = .ok (.getfield 20, 3) := by decide +kernel
theorem dX3_farthest_43 : decode cX3_farthest 43 = .ok (.iload_n 3, 1) := by decide +kernel
theorem dX3_farthest_44 : decode cX3_farthest 44 = .ok (.iaload, 1) := by decide +kernel
theorem dX3_farthest_45 : decode cX3_farthest 45 = .ok (.goto 4, 3) := by decide +kernel
theorem dX3_farthest_48 : decode cX3_farthest 48 = .ok (.iload_n 2, 1) := by decide +kernel
theorem dX3_farthest_49 : decode cX3_farthest 49 = .ok (.istore_n 2, 1) := by decide +kernel
theorem dX3_farthest_50 : decode cX3_farthest 50 = .ok (.iinc 3 1, 3) := by decide +kernel
theorem dX3_farthest_53 : decode cX3_farthest 53 = .ok (.goto (-44), 3) := by decide +kernel
theorem dX3_farthest_56 : decode cX3_farthest 56 = .ok (.iload_n 2, 1) := by decide +kernel
theorem dX3_farthest_57 : decode cX3_farthest 57 = .ok (.ireturn, 1) := by decide +kernel
set_option maxRecDepth 20000 in
theorem ggX3_pathMinimum_X3_wrongPair : GoodIn wsX3_pathMinimum wsX3_wrongPair := goodIn_r _ [5, 6, 7, 8, 9, 10, 4, 11, 12, 13, 14, 15, 16, 17, 18, 19, 20, 21, 22, 23, 24, 25, 26, 27, 28, 29, 30, 31, 54, 55, 56, 57, 58] (by decide +kernel) (by decide +kernel)
set_option maxRecDepth 20000 in
theorem gX3_pathMinimum_X3_wrongPair : GoodIn wsX3_pathMinimum (wsV RX3 66 RX3 yX3_wrongPair wsX3_wrongPair) := goodIn_app (goodIn_of _ (by decide +kernel)) ggX3_pathMinimum_X3_wrongPair
set_option maxRecDepth 20000 in
theorem ggX3_pathMinimum_X3_layPath : GoodIn wsX3_pathMinimum wsX3_layPath := goodIn_r _ [35, 36, 37, 38, 39, 40, 4, 41, 42, 43, 44, 45, 24, 25, 26, 27, 28, 29, 30, 31, 16, 54, 55, 56, 57, 58] (by decide +kernel) (by decide +kernel)
set_option maxRecDepth 20000 in
theorem gX3_pathMinimum_X3_layPath : GoodIn wsX3_pathMinimum (wsV RX3 72 RX3 yX3_layPath wsX3_layPath) := goodIn_app (goodIn_of _ (by decide +kernel)) ggX3_pathMinimum_X3_layPath
set_option maxRecDepth 20000 in
theorem ggX3_pathMinimum_X3_farthest : GoodIn wsX3_pathMinimum wsX3_farthest := goodIn_r _ [49, 37, 36, 50, 51, 52, 4, 53, 16, 54, 55, 56, 57, 58] (by decide +kernel) (by decide +kernel)
set_option maxRecDepth 20000 in
theorem gX3_pathMinimum_X3_farthest : GoodIn wsX3_pathMinimum (wsV RX3 79 RX3 yX3_farthest wsX3_farthest) := goodIn_app (goodIn_of _ (by decide +kernel)) ggX3_pathMinimum_X3_farthest
theorem dX3_pathMinimum_0 : decode cX3_pathMinimum 0 = .ok (.aload_n 0, 1) := by decide +kernel
theorem dX3_pathMinimum_1 : decode cX3_pathMinimum 1 = .ok (.iload_n 1, 1) := by decide +kernel
theorem dX3_pathMinimum_2 : decode cX3_pathMinimum 2 = .ok (.iload_n 2, 1) := by decide +kernel
theorem dX3_pathMinimum_3 : decode cX3_pathMinimum 3 = .ok (.invokevirtual 66, 3) := by decide +kernel
theorem dX3_pathMinimum_6 : decode cX3_pathMinimum 6 = .ok (.istore_n 3, 1) := by decide +kernel
theorem dX3_pathMinimum_7 : decode cX3_pathMinimum 7 = .ok (.iload_n 3, 1) := by decide +kernel
theorem dX3_pathMinimum_8 : decode cX3_pathMinimum 8 = .ok (.ifCond .eq 5, 3) := by decide +kernel
theorem dX3_pathMinimum_11 : decode cX3_pathMinimum 11 = .ok (.iload_n 3, 1) := by decide +kernel
theorem dX3_pathMinimum_12 : decode cX3_pathMinimum 12 = .ok (.ireturn, 1) := by decide +kernel
theorem dX3_pathMinimum_13 : decode cX3_pathMinimum 13 = .ok (.aload_n 0, 1) := by decide +kernel
theorem dX3_pathMinimum_14 : decode cX3_pathMinimum 14 = .ok (.iload_n 1, 1) := by decide +kernel
theorem dX3_pathMinimum_15 : decode cX3_pathMinimum 15 = .ok (.iload_n 2, 1) := by decide +kernel
theorem dX3_pathMinimum_16 : decode cX3_pathMinimum 16 = .ok (.invokevirtual 72, 3) := by decide +kernel
theorem dX3_pathMinimum_19 : decode cX3_pathMinimum 19 = .ok (.aload_n 0, 1) := by decide +kernel
theorem dX3_pathMinimum_20 : decode cX3_pathMinimum 20 = .ok (.iconst (-1), 1) := by decide +kernel
theorem dX3_pathMinimum_21 : decode cX3_pathMinimum 21 = .ok (.invokevirtual 79, 3) := by decide +kernel
theorem dX3_pathMinimum_24 : decode cX3_pathMinimum 24 = .ok (.ireturn, 1) := by decide +kernel
set_option maxRecDepth 20000 in
theorem ggX3_pathMaximum_X3_wrongPair : GoodIn wsX3_pathMaximum wsX3_wrongPair := goodIn_r _ [5, 6, 7, 8, 9, 10, 4, 11, 12, 13, 14, 15, 16, 17, 18, 19, 20, 21, 22, 23, 24, 25, 26, 27, 28, 29, 30, 31, 54, 55, 56, 57, 58] (by decide +kernel) (by decide +kernel)
set_option maxRecDepth 20000 in
theorem gX3_pathMaximum_X3_wrongPair : GoodIn wsX3_pathMaximum (wsV RX3 66 RX3 yX3_wrongPair wsX3_wrongPair) := goodIn_app (goodIn_of _ (by decide +kernel)) ggX3_pathMaximum_X3_wrongPair
set_option maxRecDepth 20000 in
theorem ggX3_pathMaximum_X3_layPath : GoodIn wsX3_pathMaximum wsX3_layPath := goodIn_r _ [35, 36, 37, 38, 39, 40, 4, 41, 42, 43, 44, 45, 24, 25, 26, 27, 28, 29, 30, 31, 16, 54, 55, 56, 57, 58] (by decide +kernel) (by decide +kernel)
set_option maxRecDepth 20000 in
theorem gX3_pathMaximum_X3_layPath : GoodIn wsX3_pathMaximum (wsV RX3 72 RX3 yX3_layPath wsX3_layPath) := goodIn_app (goodIn_of _ (by decide +kernel)) ggX3_pathMaximum_X3_layPath
set_option maxRecDepth 20000 in
theorem ggX3_pathMaximum_X3_farthest : GoodIn wsX3_pathMaximum wsX3_farthest := goodIn_r _ [49, 37, 36, 50, 51, 52, 4, 53, 16, 54, 55, 56, 57, 58] (by decide +kernel) (by decide +kernel)
set_option maxRecDepth 20000 in
theorem gX3_pathMaximum_X3_farthest : GoodIn wsX3_pathMaximum (wsV RX3 79 RX3 yX3_farthest wsX3_farthest) := goodIn_app (goodIn_of _ (by decide +kernel)) ggX3_pathMaximum_X3_farthest
theorem dX3_pathMaximum_0 : decode cX3_pathMaximum 0 = .ok (.aload_n 0, 1) := by decide +kernel
theorem dX3_pathMaximum_1 : decode cX3_pathMaximum 1 = .ok (.iload_n 1, 1) := by decide +kernel
theorem dX3_pathMaximum_2 : decode cX3_pathMaximum 2 = .ok (.iload_n 2, 1) := by decide +kernel
theorem dX3_pathMaximum_3 : decode cX3_pathMaximum 3 = .ok (.invokevirtual 66, 3) := by decide +kernel
theorem dX3_pathMaximum_6 : decode cX3_pathMaximum 6 = .ok (.istore_n 3, 1) := by decide +kernel
theorem dX3_pathMaximum_7 : decode cX3_pathMaximum 7 = .ok (.iload_n 3, 1) := by decide +kernel
theorem dX3_pathMaximum_8 : decode cX3_pathMaximum 8 = .ok (.ifCond .eq 5, 3) := by decide +kernel
theorem dX3_pathMaximum_11 : decode cX3_pathMaximum 11 = .ok (.iload_n 3, 1) := by decide +kernel
theorem dX3_pathMaximum_12 : decode cX3_pathMaximum 12 = .ok (.ireturn, 1) := by decide +kernel
theorem dX3_pathMaximum_13 : decode cX3_pathMaximum 13 = .ok (.aload_n 0, 1) := by decide +kernel
theorem dX3_pathMaximum_14 : decode cX3_pathMaximum 14 = .ok (.iload_n 1, 1) := by decide +kernel
theorem dX3_pathMaximum_15 : decode cX3_pathMaximum 15 = .ok (.iload_n 2, 1) := by decide +kernel
theorem dX3_pathMaximum_16 : decode cX3_pathMaximum 16 = .ok (.invokevirtual 72, 3) := by decide +kernel
theorem dX3_pathMaximum_19 : decode cX3_pathMaximum 19 = .ok (.aload_n 0, 1) := by decide +kernel
theorem dX3_pathMaximum_20 : decode cX3_pathMaximum 20 = .ok (.iconst 1, 1) := by decide +kernel
theorem dX3_pathMaximum_21 : decode cX3_pathMaximum 21 = .ok (.invokevirtual 79, 3) := by decide +kernel
theorem dX3_pathMaximum_24 : decode cX3_pathMaximum 24 = .ok (.ireturn, 1) := by decide +kernel
set_option maxRecDepth 20000 in
theorem ggX3_reach_X3_wrongPair : GoodIn wsX3_reach wsX3_wrongPair := goodIn_r _ [8, 9, 10, 11, 12, 13, 7, 14, 15, 16, 17, 18, 19, 20, 21, 22, 23, 24, 25, 26, 27, 28, 29, 30, 31, 32, 33, 34, 51, 52, 53, 54, 55] (by decide +kernel) (by decide +kernel)
set_option maxRecDepth 20000 in
theorem gX3_reach_X3_wrongPair : GoodIn wsX3_reach (wsV RX3 66 RX3 yX3_wrongPair wsX3_wrongPair) := goodIn_app (goodIn_of _ (by decide +kernel)) ggX3_reach_X3_wrongPair
set_option maxRecDepth 20000 in
theorem ggX3_reach_X3_layPath : GoodIn wsX3_reach wsX3_layPath := goodIn_r _ [38, 1, 2, 39, 40, 41, 7, 42, 43, 44, 45, 46, 27, 28, 29, 30, 31, 32, 33, 34, 19, 51, 52, 53, 54, 55] (by decide +kernel) (by decide +kernel)
set_option maxRecDepth 20000 in
theorem gX3_reach_X3_layPath : GoodIn wsX3_reach (wsV RX3 72 RX3 yX3_layPath wsX3_layPath) := goodIn_app (goodIn_of _ (by decide +kernel)) ggX3_reach_X3_layPath
set_option maxRecDepth 20000 in
theorem ggX3_reach_X3_valueOf : GoodIn wsX3_reach wsX3_valueOf := goodIn_r _ [50, 19, 51, 52, 53, 54, 55] (by decide +kernel) (by decide +kernel)
set_option maxRecDepth 20000 in
theorem gX3_reach_X3_valueOf : GoodIn wsX3_reach (wsV RX3 76 RX3 yX3_valueOf wsX3_valueOf) := goodIn_app (goodIn_of _ (by decide +kernel)) ggX3_reach_X3_valueOf
theorem dX3_reach_0 : decode cX3_reach 0 = .ok (.aload_n 0, 1) := by decide +kernel
theorem dX3_reach_1 : decode cX3_reach 1 = .ok (.iload_n 1, 1) := by decide +kernel
theorem dX3_reach_2 : decode cX3_reach 2 = .ok (.iload_n 2, 1) := by decide +kernel
theorem dX3_reach_3 : decode cX3_reach 3 = .ok (.invokevirtual 66, 3) := by decide +kernel
theorem dX3_reach_6 : decode cX3_reach 6 = .ok (.istore 4, 2) := by decide +kernel
theorem dX3_reach_8 : decode cX3_reach 8 = .ok (.iload 4, 2) := by decide +kernel
theorem dX3_reach_10 : decode cX3_reach 10 = .ok (.ifCond .eq 6, 3) := by decide +kernel
theorem dX3_reach_13 : decode cX3_reach 13 = .ok (.iload 4, 2) := by decide +kernel
theorem dX3_reach_15 : decode cX3_reach 15 = .ok (.ireturn, 1) := by decide +kernel
theorem dX3_reach_16 : decode cX3_reach 16 = .ok (.aload_n 0, 1) := by decide +kernel
theorem dX3_reach_17 : decode cX3_reach 17 = .ok (.iload_n 1, 1) := by decide +kernel
theorem dX3_reach_18 : decode cX3_reach 18 = .ok (.iload_n 2, 1) := by decide +kernel
theorem dX3_reach_19 : decode cX3_reach 19 = .ok (.invokevirtual 72, 3) := by decide +kernel
theorem dX3_reach_22 : decode cX3_reach 22 = .ok (.iconst 0, 1) := by decide +kernel
theorem dX3_reach_23 : decode cX3_reach 23 = .ok (.istore 5, 2) := by decide +kernel
theorem dX3_reach_25 : decode cX3_reach 25 = .ok (.iconst 0, 1) := by decide +kernel
theorem dX3_reach_26 : decode cX3_reach 26 = .ok (.istore 6, 2) := by decide +kernel
theorem dX3_reach_28 : decode cX3_reach 28 = .ok (.iload 6, 2) := by decide +kernel
theorem dX3_reach_30 : decode cX3_reach 30 = .ok (.aload_n 0, 1) := by decide +kernel
theorem dX3_reach_31 : decode cX3_reach 31 = .ok (.getfield 62, 3) := by decide +kernel
theorem dX3_reach_34 : decode cX3_reach 34 = .ok (.if_icmp .ge 39, 3) := by decide +kernel
theorem dX3_reach_37 : decode cX3_reach 37 = .ok (.iload 5, 2) := by decide +kernel
theorem dX3_reach_39 : decode cX3_reach 39 = .ok (.aload_n 0, 1) := by decide +kernel
theorem dX3_reach_40 : decode cX3_reach 40 = .ok (.aload_n 0, 1) := by decide +kernel
theorem dX3_reach_41 : decode cX3_reach 41 = .ok (.getfield 20, 3) := by decide +kernel
theorem dX3_reach_44 : decode cX3_reach 44 = .ok (.iload 6, 2) := by decide +kernel
theorem dX3_reach_46 : decode cX3_reach 46 = .ok (.iaload, 1) := by decide +kernel
theorem dX3_reach_47 : decode cX3_reach 47 = .ok (.invokevirtual 76, 3) := by decide +kernel
theorem dX3_reach_50 : decode cX3_reach 50 = .ok (.iadd, 1) := by decide +kernel
theorem dX3_reach_51 : decode cX3_reach 51 = .ok (.istore 5, 2) := by decide +kernel
theorem dX3_reach_53 : decode cX3_reach 53 = .ok (.iload 5, 2) := by decide +kernel
theorem dX3_reach_55 : decode cX3_reach 55 = .ok (.iload_n 3, 1) := by decide +kernel
theorem dX3_reach_56 : decode cX3_reach 56 = .ok (.if_icmp .lt 11, 3) := by decide +kernel
theorem dX3_reach_59 : decode cX3_reach 59 = .ok (.aload_n 0, 1) := by decide +kernel
theorem dX3_reach_60 : decode cX3_reach 60 = .ok (.getfield 20, 3) := by decide +kernel
theorem dX3_reach_63 : decode cX3_reach 63 = .ok (.iload 6, 2) := by decide +kernel
theorem dX3_reach_65 : decode cX3_reach 65 = .ok (.iaload, 1) := by decide +kernel
theorem dX3_reach_66 : decode cX3_reach 66 = .ok (.ireturn, 1) := by decide +kernel
theorem dX3_reach_67 : decode cX3_reach 67 = .ok (.iinc 6 1, 3) := by decide +kernel
theorem dX3_reach_70 : decode cX3_reach 70 = .ok (.goto (-42), 3) := by decide +kernel
theorem dX3_reach_73 : decode cX3_reach 73 = .ok (.ldc 53, 2) := by decide +kernel
theorem dX3_reach_75 : decode cX3_reach 75 = .ok (.ireturn, 1) := by decide +kernel
set_option maxRecDepth 20000 in
theorem ggX3_isValue_X3_in : GoodIn wsX3_isValue wsX3_in := goodIn_r _ [6] (by decide +kernel) (by decide +kernel)
set_option maxRecDepth 20000 in
theorem gX3_isValue_X3_in : GoodIn wsX3_isValue (va_wsS RX3 31 yX3_in wsX3_in) := goodIn_app (goodIn_of _ (by decide +kernel)) ggX3_isValue_X3_in
theorem dX3_isValue_0 : decode cX3_isValue 0 = .ok (.iload_n 0, 1) := by decide +kernel
theorem dX3_isValue_1 : decode cX3_isValue 1 = .ok (.ldc 82, 2) := by decide +kernel
theorem dX3_isValue_3 : decode cX3_isValue 3 = .ok (.ldc 83, 2) := by decide +kernel
theorem dX3_isValue_5 : decode cX3_isValue 5 = .ok (.invokestatic 31, 3) := by decide +kernel
theorem dX3_isValue_8 : decode cX3_isValue 8 = .ok (.ireturn, 1) := by decide +kernel
set_option maxRecDepth 20000 in
theorem ggX3_addOnPath_X3_wrongPair : GoodIn wsX3_addOnPath wsX3_wrongPair := goodIn_r _ [10, 11, 12, 13, 14, 15, 9, 16, 17, 18, 19, 20, 5, 21, 22, 23, 24, 25, 26, 27, 28, 29, 30, 31, 32, 33, 34, 35, 57, 58, 59, 60, 61] (by decide +kernel) (by decide +kernel)
set_option maxRecDepth 20000 in
theorem gX3_addOnPath_X3_wrongPair : GoodIn wsX3_addOnPath (wsV RX3 66 RX3 yX3_wrongPair wsX3_wrongPair) := goodIn_app (goodIn_of _ (by decide +kernel)) ggX3_addOnPath_X3_wrongPair
set_option maxRecDepth 20000 in
theorem ggX3_addOnPath_X3_isValue : GoodIn wsX3_addOnPath wsX3_isValue := goodIn_r _ [38, 39, 40, 21, 22, 9, 23] (by decide +kernel) (by decide +kernel)
set_option maxRecDepth 20000 in
theorem gX3_addOnPath_X3_isValue : GoodIn wsX3_addOnPath (va_wsS RX3 84 yX3_isValue wsX3_isValue) := goodIn_app (goodIn_of _ (by decide +kernel)) ggX3_addOnPath_X3_isValue
set_option maxRecDepth 20000 in
theorem ggX3_addOnPath_X3_layPath : GoodIn wsX3_addOnPath wsX3_layPath := goodIn_r _ [44, 2, 3, 45, 46, 47, 9, 48, 49, 50, 51, 52, 28, 29, 30, 31, 32, 33, 34, 35, 5, 57, 58, 59, 60, 61] (by decide +kernel) (by decide +kernel)
set_option maxRecDepth 20000 in
theorem gX3_addOnPath_X3_layPath : GoodIn wsX3_addOnPath (wsV RX3 72 RX3 yX3_layPath wsX3_layPath) := goodIn_app (goodIn_of _ (by decide +kernel)) ggX3_addOnPath_X3_layPath
set_option maxRecDepth 20000 in
theorem ggX3_addOnPath_X3_valueOf : GoodIn wsX3_addOnPath wsX3_valueOf := goodIn_r _ [56, 5, 57, 58, 59, 60, 61] (by decide +kernel) (by decide +kernel)
set_option maxRecDepth 20000 in
theorem gX3_addOnPath_X3_valueOf : GoodIn wsX3_addOnPath (wsV RX3 76 RX3 yX3_valueOf wsX3_valueOf) := goodIn_app (goodIn_of _ (by decide +kernel)) ggX3_addOnPath_X3_valueOf
theorem dX3_addOnPath_0 : decode cX3_addOnPath 0 = .ok (.aload_n 0, 1) := by decide +kernel
theorem dX3_addOnPath_1 : decode cX3_addOnPath 1 = .ok (.iload_n 1, 1) := by decide +kernel
theorem dX3_addOnPath_2 : decode cX3_addOnPath 2 = .ok (.iload_n 2, 1) := by decide +kernel
theorem dX3_addOnPath_3 : decode cX3_addOnPath 3 = .ok (.invokevirtual 66, 3) := by decide +kernel
theorem dX3_addOnPath_6 : decode cX3_addOnPath 6 = .ok (.istore 4, 2) := by decide +kernel
theorem dX3_addOnPath_8 : decode cX3_addOnPath 8 = .ok (.iload 4, 2) := by decide +kernel
theorem dX3_addOnPath_10 : decode cX3_addOnPath 10 = .ok (.ifCond .eq 6, 3) := by decide +kernel
theorem dX3_addOnPath_13 : decode cX3_addOnPath 13 = .ok (.iload 4, 2) := by decide +kernel
theorem dX3_addOnPath_15 : decode cX3_addOnPath 15 = .ok (.ireturn, 1) := by decide +kernel
theorem dX3_addOnPath_16 : decode cX3_addOnPath 16 = .ok (.iload_n 3, 1) := by decide +kernel
theorem dX3_addOnPath_17 : decode cX3_addOnPath 17 = .ok (.invokestatic 84, 3) := by decide +kernel
theorem dX3_addOnPath_20 : decode cX3_addOnPath 20 = .ok (.ifCond .ne 6, 3) := by decide +kernel
theorem dX3_addOnPath_23 : decode cX3_addOnPath 23 = .ok (.ldc 43, 2) := by decide +kernel
theorem dX3_addOnPath_25 : decode cX3_addOnPath 25 = .ok (.ireturn, 1) := by decide +kernel
theorem dX3_addOnPath_26 : decode cX3_addOnPath 26 = .ok (.aload_n 0, 1) := by decide +kernel
theorem dX3_addOnPath_27 : decode cX3_addOnPath 27 = .ok (.iload_n 1, 1) := by decide +kernel
theorem dX3_addOnPath_28 : decode cX3_addOnPath 28 = .ok (.iload_n 2, 1) := by decide +kernel
theorem dX3_addOnPath_29 : decode cX3_addOnPath 29 = .ok (.invokevirtual 72, 3) := by decide +kernel
theorem dX3_addOnPath_32 : decode cX3_addOnPath 32 = .ok (.iconst 0, 1) := by decide +kernel
theorem dX3_addOnPath_33 : decode cX3_addOnPath 33 = .ok (.istore 5, 2) := by decide +kernel
theorem dX3_addOnPath_35 : decode cX3_addOnPath 35 = .ok (.iload 5, 2) := by decide +kernel
theorem dX3_addOnPath_37 : decode cX3_addOnPath 37 = .ok (.aload_n 0, 1) := by decide +kernel
theorem dX3_addOnPath_38 : decode cX3_addOnPath 38 = .ok (.getfield 62, 3) := by decide +kernel
theorem dX3_addOnPath_41 : decode cX3_addOnPath 41 = .ok (.if_icmp .ge 31, 3) := by decide +kernel
theorem dX3_addOnPath_44 : decode cX3_addOnPath 44 = .ok (.aload_n 0, 1) := by decide +kernel
theorem dX3_addOnPath_45 : decode cX3_addOnPath 45 = .ok (.aload_n 0, 1) := by decide +kernel
theorem dX3_addOnPath_46 : decode cX3_addOnPath 46 = .ok (.getfield 20, 3) := by decide +kernel
theorem dX3_addOnPath_49 : decode cX3_addOnPath 49 = .ok (.iload 5, 2) := by decide +kernel
theorem dX3_addOnPath_51 : decode cX3_addOnPath 51 = .ok (.iaload, 1) := by decide +kernel
theorem dX3_addOnPath_52 : decode cX3_addOnPath 52 = .ok (.invokevirtual 76, 3) := by decide +kernel
theorem dX3_addOnPath_55 : decode cX3_addOnPath 55 = .ok (.iload_n 3, 1) := by decide +kernel
theorem dX3_addOnPath_56 : decode cX3_addOnPath 56 = .ok (.iadd, 1) := by decide +kernel
theorem dX3_addOnPath_57 : decode cX3_addOnPath 57 = .ok (.invokestatic 84, 3) := by decide +kernel
theorem dX3_addOnPath_60 : decode cX3_addOnPath 60 = .ok (.ifCond .ne 6, 3) := by decide +kernel
theorem dX3_addOnPath_63 : decode cX3_addOnPath 63 = .ok (.ldc 87, 2) := by decide +kernel
theorem dX3_addOnPath_65 : decode cX3_addOnPath 65 = .ok (.ireturn, 1) := by decide +kernel
theorem dX3_addOnPath_66 : decode cX3_addOnPath 66 = .ok (.iinc 5 1, 3) := by decide +kernel
theorem dX3_addOnPath_69 : decode cX3_addOnPath 69 = .ok (.goto (-34), 3) := by decide +kernel
theorem dX3_addOnPath_72 : decode cX3_addOnPath 72 = .ok (.iconst 0, 1) := by decide +kernel
theorem dX3_addOnPath_73 : decode cX3_addOnPath 73 = .ok (.istore 5, 2) := by decide +kernel
theorem dX3_addOnPath_75 : decode cX3_addOnPath 75 = .ok (.iload 5, 2) := by decide +kernel
theorem dX3_addOnPath_77 : decode cX3_addOnPath 77 = .ok (.aload_n 0, 1) := by decide +kernel
theorem dX3_addOnPath_78 : decode cX3_addOnPath 78 = .ok (.getfield 62, 3) := by decide +kernel
theorem dX3_addOnPath_81 : decode cX3_addOnPath 81 = .ok (.if_icmp .ge 28, 3) := by decide +kernel
theorem dX3_addOnPath_84 : decode cX3_addOnPath 84 = .ok (.aload_n 0, 1) := by decide +kernel
theorem dX3_addOnPath_85 : decode cX3_addOnPath 85 = .ok (.getfield 7, 3) := by decide +kernel
theorem dX3_addOnPath_88 : decode cX3_addOnPath 88 = .ok (.bipush 65, 2) := by decide +kernel
theorem dX3_addOnPath_90 : decode cX3_addOnPath 90 = .ok (.aload_n 0, 1) := by decide +kernel
theorem dX3_addOnPath_91 : decode cX3_addOnPath 91 = .ok (.getfield 20, 3) := by decide +kernel
theorem dX3_addOnPath_94 : decode cX3_addOnPath 94 = .ok (.iload 5, 2) := by decide +kernel
theorem dX3_addOnPath_96 : decode cX3_addOnPath 96 = .ok (.iaload, 1) := by decide +kernel
theorem dX3_addOnPath_97 : decode cX3_addOnPath 97 = .ok (.iadd, 1) := by decide +kernel
theorem dX3_addOnPath_98 : decode cX3_addOnPath 98 = .ok (.dup2, 1) := by decide +kernel
theorem dX3_addOnPath_99 : decode cX3_addOnPath 99 = .ok (.iaload, 1) := by decide +kernel
theorem dX3_addOnPath_100 : decode cX3_addOnPath 100 = .ok (.iload_n 3, 1) := by decide +kernel
theorem dX3_addOnPath_101 : decode cX3_addOnPath 101 = .ok (.iadd, 1) := by decide +kernel
theorem dX3_addOnPath_102 : decode cX3_addOnPath 102 = .ok (.iastore, 1) := by decide +kernel
theorem dX3_addOnPath_103 : decode cX3_addOnPath 103 = .ok (.iinc 5 1, 3) := by decide +kernel
theorem dX3_addOnPath_106 : decode cX3_addOnPath 106 = .ok (.goto (-31), 3) := by decide +kernel
theorem dX3_addOnPath_109 : decode cX3_addOnPath 109 = .ok (.aload_n 0, 1) := by decide +kernel
theorem dX3_addOnPath_110 : decode cX3_addOnPath 110 = .ok (.getfield 62, 3) := by decide +kernel
theorem dX3_addOnPath_113 : decode cX3_addOnPath 113 = .ok (.ireturn, 1) := by decide +kernel
set_option maxRecDepth 20000 in
theorem ggX3_setOnPath_X3_wrongPair : GoodIn wsX3_setOnPath wsX3_wrongPair := goodIn_r _ [9, 10, 11, 12, 13, 14, 8, 15, 16, 17, 18, 19, 3, 20, 21, 22, 23, 24, 25, 26, 27, 28, 29, 30, 31, 32, 33, 34, 52, 53, 54, 55, 56] (by decide +kernel) (by decide +kernel)
set_option maxRecDepth 20000 in
theorem gX3_setOnPath_X3_wrongPair : GoodIn wsX3_setOnPath (wsV RX3 66 RX3 yX3_wrongPair wsX3_wrongPair) := goodIn_app (goodIn_of _ (by decide +kernel)) ggX3_setOnPath_X3_wrongPair
set_option maxRecDepth 20000 in
theorem ggX3_setOnPath_X3_isValue : GoodIn wsX3_setOnPath wsX3_isValue := goodIn_r _ [37, 38, 39, 20, 21, 8, 22] (by decide +kernel) (by decide +kernel)
set_option maxRecDepth 20000 in
theorem gX3_setOnPath_X3_isValue : GoodIn wsX3_setOnPath (va_wsS RX3 84 yX3_isValue wsX3_isValue) := goodIn_app (goodIn_of _ (by decide +kernel)) ggX3_setOnPath_X3_isValue
set_option maxRecDepth 20000 in
theorem ggX3_setOnPath_X3_layPath : GoodIn wsX3_setOnPath wsX3_layPath := goodIn_r _ [43, 2, 4, 44, 45, 46, 8, 47, 48, 49, 50, 51, 27, 28, 29, 30, 31, 32, 33, 34, 3, 52, 53, 54, 55, 56] (by decide +kernel) (by decide +kernel)
set_option maxRecDepth 20000 in
theorem gX3_setOnPath_X3_layPath : GoodIn wsX3_setOnPath (wsV RX3 72 RX3 yX3_layPath wsX3_layPath) := goodIn_app (goodIn_of _ (by decide +kernel)) ggX3_setOnPath_X3_layPath
theorem dX3_setOnPath_0 : decode cX3_setOnPath 0 = .ok (.aload_n 0, 1) := by decide +kernel
theorem dX3_setOnPath_1 : decode cX3_setOnPath 1 = .ok (.iload_n 1, 1) := by decide +kernel
theorem dX3_setOnPath_2 : decode cX3_setOnPath 2 = .ok (.iload_n 2, 1) := by decide +kernel
theorem dX3_setOnPath_3 : decode cX3_setOnPath 3 = .ok (.invokevirtual 66, 3) := by decide +kernel
theorem dX3_setOnPath_6 : decode cX3_setOnPath 6 = .ok (.istore 4, 2) := by decide +kernel
theorem dX3_setOnPath_8 : decode cX3_setOnPath 8 = .ok (.iload 4, 2) := by decide +kernel
theorem dX3_setOnPath_10 : decode cX3_setOnPath 10 = .ok (.ifCond .eq 6, 3) := by decide +kernel
theorem dX3_setOnPath_13 : decode cX3_setOnPath 13 = .ok (.iload 4, 2) := by decide +kernel
theorem dX3_setOnPath_15 : decode cX3_setOnPath 15 = .ok (.ireturn, 1) := by decide +kernel
theorem dX3_setOnPath_16 : decode cX3_setOnPath 16 = .ok (.iload_n 3, 1) := by decide +kernel
theorem dX3_setOnPath_17 : decode cX3_setOnPath 17 = .ok (.invokestatic 84, 3) := by decide +kernel
theorem dX3_setOnPath_20 : decode cX3_setOnPath 20 = .ok (.ifCond .ne 6, 3) := by decide +kernel
theorem dX3_setOnPath_23 : decode cX3_setOnPath 23 = .ok (.ldc 43, 2) := by decide +kernel
theorem dX3_setOnPath_25 : decode cX3_setOnPath 25 = .ok (.ireturn, 1) := by decide +kernel
theorem dX3_setOnPath_26 : decode cX3_setOnPath 26 = .ok (.aload_n 0, 1) := by decide +kernel
theorem dX3_setOnPath_27 : decode cX3_setOnPath 27 = .ok (.iload_n 1, 1) := by decide +kernel
theorem dX3_setOnPath_28 : decode cX3_setOnPath 28 = .ok (.iload_n 2, 1) := by decide +kernel
theorem dX3_setOnPath_29 : decode cX3_setOnPath 29 = .ok (.invokevirtual 72, 3) := by decide +kernel
theorem dX3_setOnPath_32 : decode cX3_setOnPath 32 = .ok (.iconst 0, 1) := by decide +kernel
theorem dX3_setOnPath_33 : decode cX3_setOnPath 33 = .ok (.istore 5, 2) := by decide +kernel
theorem dX3_setOnPath_35 : decode cX3_setOnPath 35 = .ok (.iload 5, 2) := by decide +kernel
theorem dX3_setOnPath_37 : decode cX3_setOnPath 37 = .ok (.aload_n 0, 1) := by decide +kernel
theorem dX3_setOnPath_38 : decode cX3_setOnPath 38 = .ok (.getfield 62, 3) := by decide +kernel
theorem dX3_setOnPath_41 : decode cX3_setOnPath 41 = .ok (.if_icmp .ge 25, 3) := by decide +kernel
theorem dX3_setOnPath_44 : decode cX3_setOnPath 44 = .ok (.aload_n 0, 1) := by decide +kernel
theorem dX3_setOnPath_45 : decode cX3_setOnPath 45 = .ok (.getfield 7, 3) := by decide +kernel
theorem dX3_setOnPath_48 : decode cX3_setOnPath 48 = .ok (.bipush 65, 2) := by decide +kernel
theorem dX3_setOnPath_50 : decode cX3_setOnPath 50 = .ok (.aload_n 0, 1) := by decide +kernel
theorem dX3_setOnPath_51 : decode cX3_setOnPath 51 = .ok (.getfield 20, 3) := by decide +kernel
theorem dX3_setOnPath_54 : decode cX3_setOnPath 54 = .ok (.iload 5, 2) := by decide +kernel
theorem dX3_setOnPath_56 : decode cX3_setOnPath 56 = .ok (.iaload, 1) := by decide +kernel
theorem dX3_setOnPath_57 : decode cX3_setOnPath 57 = .ok (.iadd, 1) := by decide +kernel
theorem dX3_setOnPath_58 : decode cX3_setOnPath 58 = .ok (.iload_n 3, 1) := by decide +kernel
theorem dX3_setOnPath_59 : decode cX3_setOnPath 59 = .ok (.iastore, 1) := by decide +kernel
theorem dX3_setOnPath_60 : decode cX3_setOnPath 60 = .ok (.iinc 5 1, 3) := by decide +kernel
theorem dX3_setOnPath_63 : decode cX3_setOnPath 63 = .ok (.goto (-28), 3) := by decide +kernel
theorem dX3_setOnPath_66 : decode cX3_setOnPath 66 = .ok (.aload_n 0, 1) := by decide +kernel
theorem dX3_setOnPath_67 : decode cX3_setOnPath 67 = .ok (.getfield 62, 3) := by decide +kernel
theorem dX3_setOnPath_70 : decode cX3_setOnPath 70 = .ok (.ireturn, 1) := by decide +kernel
set_option maxRecDepth 20000 in
theorem ggX3_reverseValues_X3_wrongPair : GoodIn wsX3_reverseValues wsX3_wrongPair := goodIn_r _ [8, 9, 10, 11, 12, 13, 7, 14, 15, 16, 17, 18, 3, 19, 20, 21, 22, 23, 24, 25, 26, 27, 28, 29, 30, 31, 32, 33, 50, 51, 52, 53, 54] (by decide +kernel) (by decide +kernel)
set_option maxRecDepth 20000 in
theorem gX3_reverseValues_X3_wrongPair : GoodIn wsX3_reverseValues (wsV RX3 66 RX3 yX3_wrongPair wsX3_wrongPair) := goodIn_app (goodIn_of _ (by decide +kernel)) ggX3_reverseValues_X3_wrongPair
set_option maxRecDepth 20000 in
theorem ggX3_reverseValues_X3_layPath : GoodIn wsX3_reverseValues wsX3_layPath := goodIn_r _ [37, 1, 2, 38, 39, 40, 7, 41, 42, 43, 44, 45, 26, 27, 28, 29, 30, 31, 32, 33, 3, 50, 51, 52, 53, 54] (by decide +kernel) (by decide +kernel)
set_option maxRecDepth 20000 in
theorem gX3_reverseValues_X3_layPath : GoodIn wsX3_reverseValues (wsV RX3 72 RX3 yX3_layPath wsX3_layPath) := goodIn_app (goodIn_of _ (by decide +kernel)) ggX3_reverseValues_X3_layPath
set_option maxRecDepth 20000 in
theorem ggX3_reverseValues_X3_valueOf : GoodIn wsX3_reverseValues wsX3_valueOf := goodIn_r _ [49, 3, 50, 51, 52, 53, 54] (by decide +kernel) (by decide +kernel)
set_option maxRecDepth 20000 in
theorem gX3_reverseValues_X3_valueOf : GoodIn wsX3_reverseValues (wsV RX3 76 RX3 yX3_valueOf wsX3_valueOf) := goodIn_app (goodIn_of _ (by decide +kernel)) ggX3_reverseValues_X3_valueOf
theorem dX3_reverseValues_0 : decode cX3_reverseValues 0 = .ok (.aload_n 0, 1) := by decide +kernel
theorem dX3_reverseValues_1 : decode cX3_reverseValues 1 = .ok (.iload_n 1, 1) := by decide +kernel
theorem dX3_reverseValues_2 : decode cX3_reverseValues 2 = .ok (.iload_n 2, 1) := by decide +kernel
theorem dX3_reverseValues_3 : decode cX3_reverseValues 3 = .ok (.invokevirtual 66, 3) := by decide +kernel
theorem dX3_reverseValues_6 : decode cX3_reverseValues 6 = .ok (.istore_n 3, 1) := by decide +kernel
theorem dX3_reverseValues_7 : decode cX3_reverseValues 7 = .ok (.iload_n 3, 1) := by decide +kernel
theorem dX3_reverseValues_8 : decode cX3_reverseValues 8 = .ok (.ifCond .eq 5, 3) := by decide +kernel
theorem dX3_reverseValues_11 : decode cX3_reverseValues 11 = .ok (.iload_n 3, 1) := by decide +kernel
theorem dX3_reverseValues_12 : decode cX3_reverseValues 12 = .ok (.ireturn, 1) := by decide +kernel
theorem dX3_reverseValues_13 : decode cX3_reverseValues 13 = .ok (.aload_n 0, 1) := by decide +kernel
theorem dX3_reverseValues_14 : decode cX3_reverseValues 14 = .ok (.iload_n 1, 1) := by decide +kernel
theorem dX3_reverseValues_15 : decode cX3_reverseValues 15 = .ok (.iload_n 2, 1) := by decide +kernel
theorem dX3_reverseValues_16 : decode cX3_reverseValues 16 = .ok (.invokevirtual 72, 3) := by decide +kernel
theorem dX3_reverseValues_19 : decode cX3_reverseValues 19 = .ok (.iconst 0, 1) := by decide +kernel
theorem dX3_reverseValues_20 : decode cX3_reverseValues 20 = .ok (.istore 4, 2) := by decide +kernel
theorem dX3_reverseValues_22 : decode cX3_reverseValues 22 = .ok (.iload 4, 2) := by decide +kernel
theorem dX3_reverseValues_24 : decode cX3_reverseValues 24 = .ok (.aload_n 0, 1) := by decide +kernel
theorem dX3_reverseValues_25 : decode cX3_reverseValues 25 = .ok (.getfield 62, 3) := by decide +kernel
theorem dX3_reverseValues_28 : decode cX3_reverseValues 28 = .ok (.iconst 2, 1) := by decide +kernel
theorem dX3_reverseValues_29 : decode cX3_reverseValues 29 = .ok (.idiv, 1) := by decide +kernel
theorem dX3_reverseValues_30 : decode cX3_reverseValues 30 = .ok (.if_icmp .ge 70, 3) := by decide +kernel
theorem dX3_reverseValues_33 : decode cX3_reverseValues 33 = .ok (.aload_n 0, 1) := by decide +kernel
theorem dX3_reverseValues_34 : decode cX3_reverseValues 34 = .ok (.getfield 20, 3) := by decide +kernel
theorem dX3_reverseValues_37 : decode cX3_reverseValues 37 = .ok (.iload 4, 2) := by decide +kernel
theorem dX3_reverseValues_39 : decode cX3_reverseValues 39 = .ok (.iaload, 1) := by decide +kernel
theorem dX3_reverseValues_40 : decode cX3_reverseValues 40 = .ok (.istore 5, 2) := by decide +kernel
theorem dX3_reverseValues_42 : decode cX3_reverseValues 42 = .ok (.aload_n 0, 1) := by decide +kernel
theorem dX3_reverseValues_43 : decode cX3_reverseValues 43 = .ok (.getfield 20, 3) := by decide +kernel
theorem dX3_reverseValues_46 : decode cX3_reverseValues 46 = .ok (.aload_n 0, 1) := by decide +kernel
theorem dX3_reverseValues_47 : decode cX3_reverseValues 47 = .ok (.getfield 62, 3) := by decide +kernel
theorem dX3_reverseValues_50 : decode cX3_reverseValues 50 = .ok (.iconst 1, 1) := by decide +kernel
theorem dX3_reverseValues_51 : decode cX3_reverseValues 51 = .ok (.isub, 1) := by decide +kernel
theorem dX3_reverseValues_52 : decode cX3_reverseValues 52 = .ok (.iload 4, 2) := by decide +kernel
theorem dX3_reverseValues_54 : decode cX3_reverseValues 54 = .ok (.isub, 1) := by decide +kernel
theorem dX3_reverseValues_55 : decode cX3_reverseValues 55 = .ok (.iaload, 1) := by decide +kernel
theorem dX3_reverseValues_56 : decode cX3_reverseValues 56 = .ok (.istore 6, 2) := by decide +kernel
theorem dX3_reverseValues_58 : decode cX3_reverseValues 58 = .ok (.aload_n 0, 1) := by decide +kernel
theorem dX3_reverseValues_59 : decode cX3_reverseValues 59 = .ok (.iload 5, 2) := by decide +kernel
theorem dX3_reverseValues_61 : decode cX3_reverseValues 61 = .ok (.invokevirtual 76, 3) := by decide +kernel
theorem dX3_reverseValues_64 : decode cX3_reverseValues 64 = .ok (.istore 7, 2) := by decide +kernel
theorem dX3_reverseValues_66 : decode cX3_reverseValues 66 = .ok (.aload_n 0, 1) := by decide +kernel
theorem dX3_reverseValues_67 : decode cX3_reverseValues 67 = .ok (.getfield 7, 3) := by decide +kernel
theorem dX3_reverseValues_70 : decode cX3_reverseValues 70 = .ok (.bipush 65, 2) := by decide +kernel
theorem dX3_reverseValues_72 : decode cX3_reverseValues 72 = .ok (.iload 5, 2) := by decide +kernel
theorem dX3_reverseValues_74 : decode cX3_reverseValues 74 = .ok (.iadd, 1) := by decide +kernel
theorem dX3_reverseValues_75 : decode cX3_reverseValues 75 = .ok (.aload_n 0, 1) := by decide +kernel
theorem dX3_reverseValues_76 : decode cX3_reverseValues 76 = .ok (.iload 6, 2) := by decide +kernel
theorem dX3_reverseValues_78 : decode cX3_reverseValues 78 = .ok (.invokevirtual 76, 3) := by decide +kernel
theorem dX3_reverseValues_81 : decode cX3_reverseValues 81 = .ok (.iastore, 1) := by decide +kernel
theorem dX3_reverseValues_82 : decode cX3_reverseValues 82 = .ok (.aload_n 0, 1) := by decide +kernel
theorem dX3_reverseValues_83 : decode cX3_reverseValues 83 = .ok (.getfield 7, 3) := by decide +kernel
theorem dX3_reverseValues_86 : decode cX3_reverseValues 86 = .ok (.bipush 65, 2) := by decide +kernel
theorem dX3_reverseValues_88 : decode cX3_reverseValues 88 = .ok (.iload 6, 2) := by decide +kernel
theorem dX3_reverseValues_90 : decode cX3_reverseValues 90 = .ok (.iadd, 1) := by decide +kernel
theorem dX3_reverseValues_91 : decode cX3_reverseValues 91 = .ok (.iload 7, 2) := by decide +kernel
theorem dX3_reverseValues_93 : decode cX3_reverseValues 93 = .ok (.iastore, 1) := by decide +kernel
theorem dX3_reverseValues_94 : decode cX3_reverseValues 94 = .ok (.iinc 4 1, 3) := by decide +kernel
theorem dX3_reverseValues_97 : decode cX3_reverseValues 97 = .ok (.goto (-75), 3) := by decide +kernel
theorem dX3_reverseValues_100 : decode cX3_reverseValues 100 = .ok (.aload_n 0, 1) := by decide +kernel
theorem dX3_reverseValues_101 : decode cX3_reverseValues 101 = .ok (.getfield 62, 3) := by decide +kernel
theorem dX3_reverseValues_104 : decode cX3_reverseValues 104 = .ok (.ireturn, 1) := by decide +kernel
set_option maxRecDepth 20000 in
theorem ggX3_isUnder_X3_isRoot : GoodIn wsX3_isUnder wsX3_isRoot := goodIn_r _ [5, 6, 7, 8, 4, 9, 10, 11, 12, 13, 14, 15] (by decide +kernel) (by decide +kernel)
set_option maxRecDepth 20000 in
theorem gX3_isUnder_X3_isRoot : GoodIn wsX3_isUnder (wsV RX3 39 RX3 yX3_isRoot wsX3_isRoot) := goodIn_app (goodIn_of _ (by decide +kernel)) ggX3_isUnder_X3_isRoot
set_option maxRecDepth 20000 in
theorem ggX3_isUnder_X3_above : GoodIn wsX3_isUnder wsX3_above := goodIn_r _ [9, 10, 11, 12, 13, 14, 15] (by decide +kernel) (by decide +kernel)
set_option maxRecDepth 20000 in
theorem gX3_isUnder_X3_above : GoodIn wsX3_isUnder (wsV RX3 35 RX3 yX3_above wsX3_above) := goodIn_app (goodIn_of _ (by decide +kernel)) ggX3_isUnder_X3_above
theorem dX3_isUnder_0 : decode cX3_isUnder 0 = .ok (.iload_n 1, 1) := by decide +kernel
theorem dX3_isUnder_1 : decode cX3_isUnder 1 = .ok (.istore_n 3, 1) := by decide +kernel
theorem dX3_isUnder_2 : decode cX3_isUnder 2 = .ok (.iload_n 3, 1) := by decide +kernel
theorem dX3_isUnder_3 : decode cX3_isUnder 3 = .ok (.iload_n 2, 1) := by decide +kernel
theorem dX3_isUnder_4 : decode cX3_isUnder 4 = .ok (.if_icmp .eq 20, 3) := by decide +kernel
theorem dX3_isUnder_7 : decode cX3_isUnder 7 = .ok (.aload_n 0, 1) := by decide +kernel
theorem dX3_isUnder_8 : decode cX3_isUnder 8 = .ok (.iload_n 3, 1) := by decide +kernel
theorem dX3_isUnder_9 : decode cX3_isUnder 9 = .ok (.invokevirtual 39, 3) := by decide +kernel
theorem dX3_isUnder_12 : decode cX3_isUnder 12 = .ok (.ifCond .ne 12, 3) := by decide +kernel
theorem dX3_isUnder_15 : decode cX3_isUnder 15 = .ok (.aload_n 0, 1) := by decide +kernel
theorem dX3_isUnder_16 : decode cX3_isUnder 16 = .ok (.iload_n 3, 1) := by decide +kernel
theorem dX3_isUnder_17 : decode cX3_isUnder 17 = .ok (.invokevirtual 35, 3) := by decide +kernel
theorem dX3_isUnder_20 : decode cX3_isUnder 20 = .ok (.istore_n 3, 1) := by decide +kernel
theorem dX3_isUnder_21 : decode cX3_isUnder 21 = .ok (.goto (-19), 3) := by decide +kernel
theorem dX3_isUnder_24 : decode cX3_isUnder 24 = .ok (.iload_n 3, 1) := by decide +kernel
theorem dX3_isUnder_25 : decode cX3_isUnder 25 = .ok (.iload_n 2, 1) := by decide +kernel
theorem dX3_isUnder_26 : decode cX3_isUnder 26 = .ok (.if_icmp .ne 7, 3) := by decide +kernel
theorem dX3_isUnder_29 : decode cX3_isUnder 29 = .ok (.iconst 1, 1) := by decide +kernel
theorem dX3_isUnder_30 : decode cX3_isUnder 30 = .ok (.goto 4, 3) := by decide +kernel
theorem dX3_isUnder_33 : decode cX3_isUnder 33 = .ok (.iconst 0, 1) := by decide +kernel
theorem dX3_isUnder_34 : decode cX3_isUnder 34 = .ok (.ireturn, 1) := by decide +kernel
set_option maxRecDepth 20000 in
theorem ggX3_subtreeSize_X3_isVertex : GoodIn wsX3_subtreeSize wsX3_isVertex := goodIn_r _ [6, 7, 8, 9, 5, 10, 11, 12, 13, 14, 27, 28, 29, 30, 31] (by decide +kernel) (by decide +kernel)
set_option maxRecDepth 20000 in
theorem gX3_subtreeSize_X3_isVertex : GoodIn wsX3_subtreeSize (wsV RX3 44 RX3 yX3_isVertex wsX3_isVertex) := goodIn_app (goodIn_of _ (by decide +kernel)) ggX3_subtreeSize_X3_isVertex
set_option maxRecDepth 20000 in
theorem ggX3_subtreeSize_X3_many : GoodIn wsX3_subtreeSize wsX3_many := goodIn_r _ [10, 11, 27, 28, 29, 30, 31] (by decide +kernel) (by decide +kernel)
set_option maxRecDepth 20000 in
theorem gX3_subtreeSize_X3_many : GoodIn wsX3_subtreeSize (wsV RX3 27 RX3 yX3_many wsX3_many) := goodIn_app (goodIn_of _ (by decide +kernel)) ggX3_subtreeSize_X3_many
set_option maxRecDepth 20000 in
theorem ggX3_subtreeSize_X3_isUnder : GoodIn wsX3_subtreeSize wsX3_isUnder := goodIn_r _ [18, 19, 20, 21, 5, 22, 23, 24, 25, 26, 11, 27, 28, 29, 30, 31] (by decide +kernel) (by decide +kernel)
set_option maxRecDepth 20000 in
theorem gX3_subtreeSize_X3_isUnder : GoodIn wsX3_subtreeSize (wsV RX3 88 RX3 yX3_isUnder wsX3_isUnder) := goodIn_app (goodIn_of _ (by decide +kernel)) ggX3_subtreeSize_X3_isUnder
theorem dX3_subtreeSize_0 : decode cX3_subtreeSize 0 = .ok (.aload_n 0, 1) := by decide +kernel
theorem dX3_subtreeSize_1 : decode cX3_subtreeSize 1 = .ok (.iload_n 1, 1) := by decide +kernel
theorem dX3_subtreeSize_2 : decode cX3_subtreeSize 2 = .ok (.invokevirtual 44, 3) := by decide +kernel
theorem dX3_subtreeSize_5 : decode cX3_subtreeSize 5 = .ok (.ifCond .ne 6, 3) := by decide +kernel
theorem dX3_subtreeSize_8 : decode cX3_subtreeSize 8 = .ok (.ldc 47, 2) := by decide +kernel
theorem dX3_subtreeSize_10 : decode cX3_subtreeSize 10 = .ok (.ireturn, 1) := by decide +kernel
theorem dX3_subtreeSize_11 : decode cX3_subtreeSize 11 = .ok (.iconst 0, 1) := by decide +kernel
theorem dX3_subtreeSize_12 : decode cX3_subtreeSize 12 = .ok (.istore_n 2, 1) := by decide +kernel
theorem dX3_subtreeSize_13 : decode cX3_subtreeSize 13 = .ok (.iconst 0, 1) := by decide +kernel
theorem dX3_subtreeSize_14 : decode cX3_subtreeSize 14 = .ok (.istore_n 3, 1) := by decide +kernel
theorem dX3_subtreeSize_15 : decode cX3_subtreeSize 15 = .ok (.iload_n 3, 1) := by decide +kernel
theorem dX3_subtreeSize_16 : decode cX3_subtreeSize 16 = .ok (.aload_n 0, 1) := by decide +kernel
theorem dX3_subtreeSize_17 : decode cX3_subtreeSize 17 = .ok (.invokevirtual 27, 3) := by decide +kernel
theorem dX3_subtreeSize_20 : decode cX3_subtreeSize 20 = .ok (.if_icmp .ge 26, 3) := by decide +kernel
theorem dX3_subtreeSize_23 : decode cX3_subtreeSize 23 = .ok (.iload_n 2, 1) := by decide +kernel
theorem dX3_subtreeSize_24 : decode cX3_subtreeSize 24 = .ok (.aload_n 0, 1) := by decide +kernel
theorem dX3_subtreeSize_25 : decode cX3_subtreeSize 25 = .ok (.iload_n 3, 1) := by decide +kernel
theorem dX3_subtreeSize_26 : decode cX3_subtreeSize 26 = .ok (.iload_n 1, 1) := by decide +kernel
theorem dX3_subtreeSize_27 : decode cX3_subtreeSize 27 = .ok (.invokevirtual 88, 3) := by decide +kernel
theorem dX3_subtreeSize_30 : decode cX3_subtreeSize 30 = .ok (.ifCond .eq 7, 3) := by decide +kernel
theorem dX3_subtreeSize_33 : decode cX3_subtreeSize 33 = .ok (.iconst 1, 1) := by decide +kernel
theorem dX3_subtreeSize_34 : decode cX3_subtreeSize 34 = .ok (.goto 4, 3) := by decide +kernel
theorem dX3_subtreeSize_37 : decode cX3_subtreeSize 37 = .ok (.iconst 0, 1) := by decide +kernel
theorem dX3_subtreeSize_38 : decode cX3_subtreeSize 38 = .ok (.iadd, 1) := by decide +kernel
theorem dX3_subtreeSize_39 : decode cX3_subtreeSize 39 = .ok (.istore_n 2, 1) := by decide +kernel
theorem dX3_subtreeSize_40 : decode cX3_subtreeSize 40 = .ok (.iinc 3 1, 3) := by decide +kernel
theorem dX3_subtreeSize_43 : decode cX3_subtreeSize 43 = .ok (.goto (-28), 3) := by decide +kernel
theorem dX3_subtreeSize_46 : decode cX3_subtreeSize 46 = .ok (.iload_n 2, 1) := by decide +kernel
theorem dX3_subtreeSize_47 : decode cX3_subtreeSize 47 = .ok (.ireturn, 1) := by decide +kernel
set_option maxRecDepth 20000 in
theorem ggX3_subtreeSum_X3_isVertex : GoodIn wsX3_subtreeSum wsX3_isVertex := goodIn_r _ [6, 7, 8, 9, 5, 10, 11, 12, 13, 14, 31, 32, 33, 34, 35] (by decide +kernel) (by decide +kernel)
set_option maxRecDepth 20000 in
theorem gX3_subtreeSum_X3_isVertex : GoodIn wsX3_subtreeSum (wsV RX3 44 RX3 yX3_isVertex wsX3_isVertex) := goodIn_app (goodIn_of _ (by decide +kernel)) ggX3_subtreeSum_X3_isVertex
set_option maxRecDepth 20000 in
theorem ggX3_subtreeSum_X3_many : GoodIn wsX3_subtreeSum wsX3_many := goodIn_r _ [10, 11, 31, 32, 33, 34, 35] (by decide +kernel) (by decide +kernel)
set_option maxRecDepth 20000 in
theorem gX3_subtreeSum_X3_many : GoodIn wsX3_subtreeSum (wsV RX3 27 RX3 yX3_many wsX3_many) := goodIn_app (goodIn_of _ (by decide +kernel)) ggX3_subtreeSum_X3_many
set_option maxRecDepth 20000 in
theorem ggX3_subtreeSum_X3_isUnder : GoodIn wsX3_subtreeSum wsX3_isUnder := goodIn_r _ [18, 19, 20, 21, 5, 22, 23, 24, 25, 26, 11, 31, 32, 33, 34, 35] (by decide +kernel) (by decide +kernel)
set_option maxRecDepth 20000 in
theorem gX3_subtreeSum_X3_isUnder : GoodIn wsX3_subtreeSum (wsV RX3 88 RX3 yX3_isUnder wsX3_isUnder) := goodIn_app (goodIn_of _ (by decide +kernel)) ggX3_subtreeSum_X3_isUnder
set_option maxRecDepth 20000 in
theorem ggX3_subtreeSum_X3_valueOf : GoodIn wsX3_subtreeSum wsX3_valueOf := goodIn_r _ [30, 11, 31, 32, 33, 34, 35] (by decide +kernel) (by decide +kernel)
set_option maxRecDepth 20000 in
theorem gX3_subtreeSum_X3_valueOf : GoodIn wsX3_subtreeSum (wsV RX3 76 RX3 yX3_valueOf wsX3_valueOf) := goodIn_app (goodIn_of _ (by decide +kernel)) ggX3_subtreeSum_X3_valueOf
theorem dX3_subtreeSum_0 : decode cX3_subtreeSum 0 = .ok (.aload_n 0, 1) := by decide +kernel
theorem dX3_subtreeSum_1 : decode cX3_subtreeSum 1 = .ok (.iload_n 1, 1) := by decide +kernel
theorem dX3_subtreeSum_2 : decode cX3_subtreeSum 2 = .ok (.invokevirtual 44, 3) := by decide +kernel
theorem dX3_subtreeSum_5 : decode cX3_subtreeSum 5 = .ok (.ifCond .ne 6, 3) := by decide +kernel
theorem dX3_subtreeSum_8 : decode cX3_subtreeSum 8 = .ok (.ldc 47, 2) := by decide +kernel
theorem dX3_subtreeSum_10 : decode cX3_subtreeSum 10 = .ok (.ireturn, 1) := by decide +kernel
theorem dX3_subtreeSum_11 : decode cX3_subtreeSum 11 = .ok (.iconst 0, 1) := by decide +kernel
theorem dX3_subtreeSum_12 : decode cX3_subtreeSum 12 = .ok (.istore_n 2, 1) := by decide +kernel
theorem dX3_subtreeSum_13 : decode cX3_subtreeSum 13 = .ok (.iconst 0, 1) := by decide +kernel
theorem dX3_subtreeSum_14 : decode cX3_subtreeSum 14 = .ok (.istore_n 3, 1) := by decide +kernel
theorem dX3_subtreeSum_15 : decode cX3_subtreeSum 15 = .ok (.iload_n 3, 1) := by decide +kernel
theorem dX3_subtreeSum_16 : decode cX3_subtreeSum 16 = .ok (.aload_n 0, 1) := by decide +kernel
theorem dX3_subtreeSum_17 : decode cX3_subtreeSum 17 = .ok (.invokevirtual 27, 3) := by decide +kernel
theorem dX3_subtreeSum_20 : decode cX3_subtreeSum 20 = .ok (.if_icmp .ge 30, 3) := by decide +kernel
theorem dX3_subtreeSum_23 : decode cX3_subtreeSum 23 = .ok (.iload_n 2, 1) := by decide +kernel
theorem dX3_subtreeSum_24 : decode cX3_subtreeSum 24 = .ok (.aload_n 0, 1) := by decide +kernel
theorem dX3_subtreeSum_25 : decode cX3_subtreeSum 25 = .ok (.iload_n 3, 1) := by decide +kernel
theorem dX3_subtreeSum_26 : decode cX3_subtreeSum 26 = .ok (.iload_n 1, 1) := by decide +kernel
theorem dX3_subtreeSum_27 : decode cX3_subtreeSum 27 = .ok (.invokevirtual 88, 3) := by decide +kernel
theorem dX3_subtreeSum_30 : decode cX3_subtreeSum 30 = .ok (.ifCond .eq 11, 3) := by decide +kernel
theorem dX3_subtreeSum_33 : decode cX3_subtreeSum 33 = .ok (.aload_n 0, 1) := by decide +kernel
theorem dX3_subtreeSum_34 : decode cX3_subtreeSum 34 = .ok (.iload_n 3, 1) := by decide +kernel
theorem dX3_subtreeSum_35 : decode cX3_subtreeSum 35 = .ok (.invokevirtual 76, 3) := by decide +kernel
theorem dX3_subtreeSum_38 : decode cX3_subtreeSum 38 = .ok (.goto 4, 3) := by decide +kernel
theorem dX3_subtreeSum_41 : decode cX3_subtreeSum 41 = .ok (.iconst 0, 1) := by decide +kernel
theorem dX3_subtreeSum_42 : decode cX3_subtreeSum 42 = .ok (.iadd, 1) := by decide +kernel
theorem dX3_subtreeSum_43 : decode cX3_subtreeSum 43 = .ok (.istore_n 2, 1) := by decide +kernel
theorem dX3_subtreeSum_44 : decode cX3_subtreeSum 44 = .ok (.iinc 3 1, 3) := by decide +kernel
theorem dX3_subtreeSum_47 : decode cX3_subtreeSum 47 = .ok (.goto (-32), 3) := by decide +kernel
theorem dX3_subtreeSum_50 : decode cX3_subtreeSum 50 = .ok (.iload_n 2, 1) := by decide +kernel
theorem dX3_subtreeSum_51 : decode cX3_subtreeSum 51 = .ok (.ireturn, 1) := by decide +kernel
set_option maxRecDepth 20000 in
theorem ggX3_addInSubtree_X3_isVertex : GoodIn wsX3_addInSubtree wsX3_isVertex := goodIn_r _ [9, 10, 11, 12, 8, 13, 4, 14, 15, 16, 38, 39, 40, 41, 42] (by decide +kernel) (by decide +kernel)
set_option maxRecDepth 20000 in
theorem gX3_addInSubtree_X3_isVertex : GoodIn wsX3_addInSubtree (wsV RX3 44 RX3 yX3_isVertex wsX3_isVertex) := goodIn_app (goodIn_of _ (by decide +kernel)) ggX3_addInSubtree_X3_isVertex
set_option maxRecDepth 20000 in
theorem ggX3_addInSubtree_X3_isValue : GoodIn wsX3_addInSubtree wsX3_isValue := goodIn_r _ [19, 20, 21, 14, 15, 8, 16] (by decide +kernel) (by decide +kernel)
set_option maxRecDepth 20000 in
theorem gX3_addInSubtree_X3_isValue : GoodIn wsX3_addInSubtree (va_wsS RX3 84 yX3_isValue wsX3_isValue) := goodIn_app (goodIn_of _ (by decide +kernel)) ggX3_addInSubtree_X3_isValue
set_option maxRecDepth 20000 in
theorem ggX3_addInSubtree_X3_many : GoodIn wsX3_addInSubtree wsX3_many := goodIn_r _ [13, 4, 38, 39, 40, 41, 42] (by decide +kernel) (by decide +kernel)
set_option maxRecDepth 20000 in
theorem gX3_addInSubtree_X3_many : GoodIn wsX3_addInSubtree (wsV RX3 27 RX3 yX3_many wsX3_many) := goodIn_app (goodIn_of _ (by decide +kernel)) ggX3_addInSubtree_X3_many
set_option maxRecDepth 20000 in
theorem ggX3_addInSubtree_X3_isUnder : GoodIn wsX3_addInSubtree wsX3_isUnder := goodIn_r _ [25, 26, 27, 28, 8, 29, 30, 31, 32, 33, 4, 38, 39, 40, 41, 42] (by decide +kernel) (by decide +kernel)
set_option maxRecDepth 20000 in
theorem gX3_addInSubtree_X3_isUnder : GoodIn wsX3_addInSubtree (wsV RX3 88 RX3 yX3_isUnder wsX3_isUnder) := goodIn_app (goodIn_of _ (by decide +kernel)) ggX3_addInSubtree_X3_isUnder
set_option maxRecDepth 20000 in
theorem ggX3_addInSubtree_X3_valueOf : GoodIn wsX3_addInSubtree wsX3_valueOf := goodIn_r _ [37, 4, 38, 39, 40, 41, 42] (by decide +kernel) (by decide +kernel)
set_option maxRecDepth 20000 in
theorem gX3_addInSubtree_X3_valueOf : GoodIn wsX3_addInSubtree (wsV RX3 76 RX3 yX3_valueOf wsX3_valueOf) := goodIn_app (goodIn_of _ (by decide +kernel)) ggX3_addInSubtree_X3_valueOf
theorem dX3_addInSubtree_0 : decode cX3_addInSubtree 0 = .ok (.aload_n 0, 1) := by decide +kernel
theorem dX3_addInSubtree_1 : decode cX3_addInSubtree 1 = .ok (.iload_n 1, 1) := by decide +kernel
theorem dX3_addInSubtree_2 : decode cX3_addInSubtree 2 = .ok (.invokevirtual 44, 3) := by decide +kernel
theorem dX3_addInSubtree_5 : decode cX3_addInSubtree 5 = .ok (.ifCond .ne 6, 3) := by decide +kernel
theorem dX3_addInSubtree_8 : decode cX3_addInSubtree 8 = .ok (.ldc 47, 2) := by decide +kernel
theorem dX3_addInSubtree_10 : decode cX3_addInSubtree 10 = .ok (.ireturn, 1) := by decide +kernel
theorem dX3_addInSubtree_11 : decode cX3_addInSubtree 11 = .ok (.iload_n 2, 1) := by decide +kernel
theorem dX3_addInSubtree_12 : decode cX3_addInSubtree 12 = .ok (.invokestatic 84, 3) := by decide +kernel
theorem dX3_addInSubtree_15 : decode cX3_addInSubtree 15 = .ok (.ifCond .ne 6, 3) := by decide +kernel
theorem dX3_addInSubtree_18 : decode cX3_addInSubtree 18 = .ok (.ldc 43, 2) := by decide +kernel
theorem dX3_addInSubtree_20 : decode cX3_addInSubtree 20 = .ok (.ireturn, 1) := by decide +kernel
theorem dX3_addInSubtree_21 : decode cX3_addInSubtree 21 = .ok (.iconst 0, 1) := by decide +kernel
theorem dX3_addInSubtree_22 : decode cX3_addInSubtree 22 = .ok (.istore_n 3, 1) := by decide +kernel
theorem dX3_addInSubtree_23 : decode cX3_addInSubtree 23 = .ok (.iload_n 3, 1) := by decide +kernel
theorem dX3_addInSubtree_24 : decode cX3_addInSubtree 24 = .ok (.aload_n 0, 1) := by decide +kernel
theorem dX3_addInSubtree_25 : decode cX3_addInSubtree 25 = .ok (.invokevirtual 27, 3) := by decide +kernel
theorem dX3_addInSubtree_28 : decode cX3_addInSubtree 28 = .ok (.if_icmp .ge 34, 3) := by decide +kernel
theorem dX3_addInSubtree_31 : decode cX3_addInSubtree 31 = .ok (.aload_n 0, 1) := by decide +kernel
theorem dX3_addInSubtree_32 : decode cX3_addInSubtree 32 = .ok (.iload_n 3, 1) := by decide +kernel
theorem dX3_addInSubtree_33 : decode cX3_addInSubtree 33 = .ok (.iload_n 1, 1) := by decide +kernel
theorem dX3_addInSubtree_34 : decode cX3_addInSubtree 34 = .ok (.invokevirtual 88, 3) := by decide +kernel
theorem dX3_addInSubtree_37 : decode cX3_addInSubtree 37 = .ok (.ifCond .eq 19, 3) := by decide +kernel
theorem dX3_addInSubtree_40 : decode cX3_addInSubtree 40 = .ok (.aload_n 0, 1) := by decide +kernel
theorem dX3_addInSubtree_41 : decode cX3_addInSubtree 41 = .ok (.iload_n 3, 1) := by decide +kernel
theorem dX3_addInSubtree_42 : decode cX3_addInSubtree 42 = .ok (.invokevirtual 76, 3) := by decide +kernel
theorem dX3_addInSubtree_45 : decode cX3_addInSubtree 45 = .ok (.iload_n 2, 1) := by decide +kernel
theorem dX3_addInSubtree_46 : decode cX3_addInSubtree 46 = .ok (.iadd, 1) := by decide +kernel
theorem dX3_addInSubtree_47 : decode cX3_addInSubtree 47 = .ok (.invokestatic 84, 3) := by decide +kernel
theorem dX3_addInSubtree_50 : decode cX3_addInSubtree 50 = .ok (.ifCond .ne 6, 3) := by decide +kernel
theorem dX3_addInSubtree_53 : decode cX3_addInSubtree 53 = .ok (.ldc 87, 2) := by decide +kernel
theorem dX3_addInSubtree_55 : decode cX3_addInSubtree 55 = .ok (.ireturn, 1) := by decide +kernel
theorem dX3_addInSubtree_56 : decode cX3_addInSubtree 56 = .ok (.iinc 3 1, 3) := by decide +kernel
theorem dX3_addInSubtree_59 : decode cX3_addInSubtree 59 = .ok (.goto (-36), 3) := by decide +kernel
theorem dX3_addInSubtree_62 : decode cX3_addInSubtree 62 = .ok (.iconst 0, 1) := by decide +kernel
theorem dX3_addInSubtree_63 : decode cX3_addInSubtree 63 = .ok (.istore_n 3, 1) := by decide +kernel
theorem dX3_addInSubtree_64 : decode cX3_addInSubtree 64 = .ok (.iconst 0, 1) := by decide +kernel
theorem dX3_addInSubtree_65 : decode cX3_addInSubtree 65 = .ok (.istore 4, 2) := by decide +kernel
theorem dX3_addInSubtree_67 : decode cX3_addInSubtree 67 = .ok (.iload 4, 2) := by decide +kernel
theorem dX3_addInSubtree_69 : decode cX3_addInSubtree 69 = .ok (.aload_n 0, 1) := by decide +kernel
theorem dX3_addInSubtree_70 : decode cX3_addInSubtree 70 = .ok (.invokevirtual 27, 3) := by decide +kernel
theorem dX3_addInSubtree_73 : decode cX3_addInSubtree 73 = .ok (.if_icmp .ge 36, 3) := by decide +kernel
theorem dX3_addInSubtree_76 : decode cX3_addInSubtree 76 = .ok (.aload_n 0, 1) := by decide +kernel
theorem dX3_addInSubtree_77 : decode cX3_addInSubtree 77 = .ok (.iload 4, 2) := by decide +kernel
theorem dX3_addInSubtree_79 : decode cX3_addInSubtree 79 = .ok (.iload_n 1, 1) := by decide +kernel
theorem dX3_addInSubtree_80 : decode cX3_addInSubtree 80 = .ok (.invokevirtual 88, 3) := by decide +kernel
theorem dX3_addInSubtree_83 : decode cX3_addInSubtree 83 = .ok (.ifCond .eq 20, 3) := by decide +kernel
theorem dX3_addInSubtree_86 : decode cX3_addInSubtree 86 = .ok (.aload_n 0, 1) := by decide +kernel
theorem dX3_addInSubtree_87 : decode cX3_addInSubtree 87 = .ok (.getfield 7, 3) := by decide +kernel
theorem dX3_addInSubtree_90 : decode cX3_addInSubtree 90 = .ok (.bipush 65, 2) := by decide +kernel
theorem dX3_addInSubtree_92 : decode cX3_addInSubtree 92 = .ok (.iload 4, 2) := by decide +kernel
theorem dX3_addInSubtree_94 : decode cX3_addInSubtree 94 = .ok (.iadd, 1) := by decide +kernel
theorem dX3_addInSubtree_95 : decode cX3_addInSubtree 95 = .ok (.dup2, 1) := by decide +kernel
theorem dX3_addInSubtree_96 : decode cX3_addInSubtree 96 = .ok (.iaload, 1) := by decide +kernel
theorem dX3_addInSubtree_97 : decode cX3_addInSubtree 97 = .ok (.iload_n 2, 1) := by decide +kernel
theorem dX3_addInSubtree_98 : decode cX3_addInSubtree 98 = .ok (.iadd, 1) := by decide +kernel
theorem dX3_addInSubtree_99 : decode cX3_addInSubtree 99 = .ok (.iastore, 1) := by decide +kernel
theorem dX3_addInSubtree_100 : decode cX3_addInSubtree 100 = .ok (.iinc 3 1, 3) := by decide +kernel
theorem dX3_addInSubtree_103 : decode cX3_addInSubtree 103 = .ok (.iinc 4 1, 3) := by decide +kernel
theorem dX3_addInSubtree_106 : decode cX3_addInSubtree 106 = .ok (.goto (-39), 3) := by decide +kernel
theorem dX3_addInSubtree_109 : decode cX3_addInSubtree 109 = .ok (.iload_n 3, 1) := by decide +kernel
theorem dX3_addInSubtree_110 : decode cX3_addInSubtree 110 = .ok (.ireturn, 1) := by decide +kernel
set_option maxRecDepth 20000 in
theorem ggX3_diameter_X3_isVertex : GoodIn wsX3_diameter wsX3_isVertex := goodIn_r _ [6, 7, 8, 9, 5, 10, 11, 12, 13, 14, 39, 40, 41, 42, 43] (by decide +kernel) (by decide +kernel)
set_option maxRecDepth 20000 in
theorem gX3_diameter_X3_isVertex : GoodIn wsX3_diameter (wsV RX3 44 RX3 yX3_isVertex wsX3_isVertex) := goodIn_app (goodIn_of _ (by decide +kernel)) ggX3_diameter_X3_isVertex
set_option maxRecDepth 20000 in
theorem ggX3_diameter_X3_rootOf : GoodIn wsX3_diameter wsX3_rootOf := goodIn_r _ [18, 19, 20, 21, 5, 22, 23, 24, 25, 26, 11, 39, 40, 41, 42, 43] (by decide +kernel) (by decide +kernel)
set_option maxRecDepth 20000 in
theorem gX3_diameter_X3_rootOf : GoodIn wsX3_diameter (wsV RX3 49 RX3 yX3_rootOf wsX3_rootOf) := goodIn_app (goodIn_of _ (by decide +kernel)) ggX3_diameter_X3_rootOf
set_option maxRecDepth 20000 in
theorem ggX3_diameter_X3_many : GoodIn wsX3_diameter wsX3_many := goodIn_r _ [10, 11, 39, 40, 41, 42, 43] (by decide +kernel) (by decide +kernel)
set_option maxRecDepth 20000 in
theorem gX3_diameter_X3_many : GoodIn wsX3_diameter (wsV RX3 27 RX3 yX3_many wsX3_many) := goodIn_app (goodIn_of _ (by decide +kernel)) ggX3_diameter_X3_many
set_option maxRecDepth 20000 in
theorem ggX3_diameter_X3_distanceOf : GoodIn wsX3_diameter wsX3_distanceOf := goodIn_r _ [30, 31, 32, 33, 5, 34, 19, 20, 21, 22, 23, 24, 25, 26, 11, 35, 36, 37, 38, 39, 40, 41, 42, 43] (by decide +kernel) (by decide +kernel)
set_option maxRecDepth 20000 in
theorem gX3_diameter_X3_distanceOf : GoodIn wsX3_diameter (wsV RX3 69 RX3 yX3_distanceOf wsX3_distanceOf) := goodIn_app (goodIn_of _ (by decide +kernel)) ggX3_diameter_X3_distanceOf
theorem dX3_diameter_0 : decode cX3_diameter 0 = .ok (.aload_n 0, 1) := by decide +kernel
theorem dX3_diameter_1 : decode cX3_diameter 1 = .ok (.iload_n 1, 1) := by decide +kernel
theorem dX3_diameter_2 : decode cX3_diameter 2 = .ok (.invokevirtual 44, 3) := by decide +kernel
theorem dX3_diameter_5 : decode cX3_diameter 5 = .ok (.ifCond .ne 6, 3) := by decide +kernel
theorem dX3_diameter_8 : decode cX3_diameter 8 = .ok (.ldc 47, 2) := by decide +kernel
theorem dX3_diameter_10 : decode cX3_diameter 10 = .ok (.ireturn, 1) := by decide +kernel
theorem dX3_diameter_11 : decode cX3_diameter 11 = .ok (.aload_n 0, 1) := by decide +kernel
theorem dX3_diameter_12 : decode cX3_diameter 12 = .ok (.iload_n 1, 1) := by decide +kernel
theorem dX3_diameter_13 : decode cX3_diameter 13 = .ok (.invokevirtual 49, 3) := by decide +kernel
theorem dX3_diameter_16 : decode cX3_diameter 16 = .ok (.istore_n 2, 1) := by decide +kernel
theorem dX3_diameter_17 : decode cX3_diameter 17 = .ok (.iconst 0, 1) := by decide +kernel
theorem dX3_diameter_18 : decode cX3_diameter 18 = .ok (.istore_n 3, 1) := by decide +kernel
theorem dX3_diameter_19 : decode cX3_diameter 19 = .ok (.iconst 0, 1) := by decide +kernel
theorem dX3_diameter_20 : decode cX3_diameter 20 = .ok (.istore 4, 2) := by decide +kernel
theorem dX3_diameter_22 : decode cX3_diameter 22 = .ok (.iload 4, 2) := by decide +kernel
theorem dX3_diameter_24 : decode cX3_diameter 24 = .ok (.aload_n 0, 1) := by decide +kernel
theorem dX3_diameter_25 : decode cX3_diameter 25 = .ok (.invokevirtual 27, 3) := by decide +kernel
theorem dX3_diameter_28 : decode cX3_diameter 28 = .ok (.if_icmp .ge 72, 3) := by decide +kernel
theorem dX3_diameter_31 : decode cX3_diameter 31 = .ok (.iconst 0, 1) := by decide +kernel
theorem dX3_diameter_32 : decode cX3_diameter 32 = .ok (.istore 5, 2) := by decide +kernel
theorem dX3_diameter_34 : decode cX3_diameter 34 = .ok (.iload 5, 2) := by decide +kernel
theorem dX3_diameter_36 : decode cX3_diameter 36 = .ok (.iload 4, 2) := by decide +kernel
theorem dX3_diameter_38 : decode cX3_diameter 38 = .ok (.if_icmp .ge 56, 3) := by decide +kernel
theorem dX3_diameter_41 : decode cX3_diameter 41 = .ok (.aload_n 0, 1) := by decide +kernel
theorem dX3_diameter_42 : decode cX3_diameter 42 = .ok (.iload 4, 2) := by decide +kernel
theorem dX3_diameter_44 : decode cX3_diameter 44 = .ok (.invokevirtual 49, 3) := by decide +kernel
theorem dX3_diameter_47 : decode cX3_diameter 47 = .ok (.iload_n 2, 1) := by decide +kernel
theorem dX3_diameter_48 : decode cX3_diameter 48 = .ok (.if_icmp .ne 46, 3) := by decide +kernel
theorem dX3_diameter_51 : decode cX3_diameter 51 = .ok (.aload_n 0, 1) := by decide +kernel
theorem dX3_diameter_52 : decode cX3_diameter 52 = .ok (.iload 5, 2) := by decide +kernel
theorem dX3_diameter_54 : decode cX3_diameter 54 = .ok (.invokevirtual 49, 3) := by decide +kernel
theorem dX3_diameter_57 : decode cX3_diameter 57 = .ok (.iload_n 2, 1) := by decide +kernel
theorem dX3_diameter_58 : decode cX3_diameter 58 = .ok (.if_icmp .ne 14, 3) := by decide +kernel
theorem dX3_diameter_61 : decode cX3_diameter 61 = .ok (.aload_n 0, 1) := by decide +kernel
theorem dX3_diameter_62 : decode cX3_diameter 62 = .ok (.iload 4, 2) := by decide +kernel
theorem dX3_diameter_64 : decode cX3_diameter 64 = .ok (.iload 5, 2) := by decide +kernel
theorem dX3_diameter_66 : decode cX3_diameter 66 = .ok (.invokevirtual 69, 3) := by decide +kernel
theorem dX3_diameter_69 : decode cX3_diameter 69 = .ok (.goto 4, 3) := by decide +kernel
theorem dX3_diameter_72 : decode cX3_diameter 72 = .ok (.iconst 0, 1) := by decide +kernel
theorem dX3_diameter_73 : decode cX3_diameter 73 = .ok (.istore 6, 2) := by decide +kernel
theorem dX3_diameter_75 : decode cX3_diameter 75 = .ok (.iload 6, 2) := by decide +kernel
theorem dX3_diameter_77 : decode cX3_diameter 77 = .ok (.iload_n 3, 1) := by decide +kernel
theorem dX3_diameter_78 : decode cX3_diameter 78 = .ok (.if_icmp .le 8, 3) := by decide +kernel
theorem dX3_diameter_81 : decode cX3_diameter 81 = .ok (.iload 6, 2) := by decide +kernel
theorem dX3_diameter_83 : decode cX3_diameter 83 = .ok (.goto 4, 3) := by decide +kernel
theorem dX3_diameter_86 : decode cX3_diameter 86 = .ok (.iload_n 3, 1) := by decide +kernel
theorem dX3_diameter_87 : decode cX3_diameter 87 = .ok (.istore_n 3, 1) := by decide +kernel
theorem dX3_diameter_88 : decode cX3_diameter 88 = .ok (.iinc 5 1, 3) := by decide +kernel
theorem dX3_diameter_91 : decode cX3_diameter 91 = .ok (.goto (-57), 3) := by decide +kernel
theorem dX3_diameter_94 : decode cX3_diameter 94 = .ok (.iinc 4 1, 3) := by decide +kernel
theorem dX3_diameter_97 : decode cX3_diameter 97 = .ok (.goto (-75), 3) := by decide +kernel
theorem dX3_diameter_100 : decode cX3_diameter 100 = .ok (.iload_n 3, 1) := by decide +kernel
theorem dX3_diameter_101 : decode cX3_diameter 101 = .ok (.ireturn, 1) := by decide +kernel
set_option maxRecDepth 20000 in
theorem ggX3_setValue_X3_isVertex : GoodIn wsX3_setValue wsX3_isVertex := goodIn_r _ [8, 9, 10, 11, 7, 12, 3, 13, 14, 15, 25, 26, 27, 28, 29] (by decide +kernel) (by decide +kernel)
set_option maxRecDepth 20000 in
theorem gX3_setValue_X3_isVertex : GoodIn wsX3_setValue (wsV RX3 44 RX3 yX3_isVertex wsX3_isVertex) := goodIn_app (goodIn_of _ (by decide +kernel)) ggX3_setValue_X3_isVertex
set_option maxRecDepth 20000 in
theorem ggX3_setValue_X3_isValue : GoodIn wsX3_setValue wsX3_isValue := goodIn_r _ [18, 19, 20, 13, 14, 7, 15] (by decide +kernel) (by decide +kernel)
set_option maxRecDepth 20000 in
theorem gX3_setValue_X3_isValue : GoodIn wsX3_setValue (va_wsS RX3 84 yX3_isValue wsX3_isValue) := goodIn_app (goodIn_of _ (by decide +kernel)) ggX3_setValue_X3_isValue
set_option maxRecDepth 20000 in
theorem ggX3_setValue_X3_valueOf : GoodIn wsX3_setValue wsX3_valueOf := goodIn_r _ [24, 3, 25, 26, 27, 28, 29] (by decide +kernel) (by decide +kernel)
set_option maxRecDepth 20000 in
theorem gX3_setValue_X3_valueOf : GoodIn wsX3_setValue (wsV RX3 76 RX3 yX3_valueOf wsX3_valueOf) := goodIn_app (goodIn_of _ (by decide +kernel)) ggX3_setValue_X3_valueOf
theorem dX3_setValue_0 : decode cX3_setValue 0 = .ok (.aload_n 0, 1) := by decide +kernel
theorem dX3_setValue_1 : decode cX3_setValue 1 = .ok (.iload_n 1, 1) := by decide +kernel
theorem dX3_setValue_2 : decode cX3_setValue 2 = .ok (.invokevirtual 44, 3) := by decide +kernel
theorem dX3_setValue_5 : decode cX3_setValue 5 = .ok (.ifCond .ne 6, 3) := by decide +kernel
theorem dX3_setValue_8 : decode cX3_setValue 8 = .ok (.ldc 47, 2) := by decide +kernel
theorem dX3_setValue_10 : decode cX3_setValue 10 = .ok (.ireturn, 1) := by decide +kernel
theorem dX3_setValue_11 : decode cX3_setValue 11 = .ok (.iload_n 2, 1) := by decide +kernel
theorem dX3_setValue_12 : decode cX3_setValue 12 = .ok (.invokestatic 84, 3) := by decide +kernel
theorem dX3_setValue_15 : decode cX3_setValue 15 = .ok (.ifCond .ne 6, 3) := by decide +kernel
theorem dX3_setValue_18 : decode cX3_setValue 18 = .ok (.ldc 43, 2) := by decide +kernel
theorem dX3_setValue_20 : decode cX3_setValue 20 = .ok (.ireturn, 1) := by decide +kernel
theorem dX3_setValue_21 : decode cX3_setValue 21 = .ok (.aload_n 0, 1) := by decide +kernel
theorem dX3_setValue_22 : decode cX3_setValue 22 = .ok (.iload_n 1, 1) := by decide +kernel
theorem dX3_setValue_23 : decode cX3_setValue 23 = .ok (.invokevirtual 76, 3) := by decide +kernel
theorem dX3_setValue_26 : decode cX3_setValue 26 = .ok (.istore_n 3, 1) := by decide +kernel
theorem dX3_setValue_27 : decode cX3_setValue 27 = .ok (.aload_n 0, 1) := by decide +kernel
theorem dX3_setValue_28 : decode cX3_setValue 28 = .ok (.getfield 7, 3) := by decide +kernel
theorem dX3_setValue_31 : decode cX3_setValue 31 = .ok (.bipush 65, 2) := by decide +kernel
theorem dX3_setValue_33 : decode cX3_setValue 33 = .ok (.iload_n 1, 1) := by decide +kernel
theorem dX3_setValue_34 : decode cX3_setValue 34 = .ok (.iadd, 1) := by decide +kernel
theorem dX3_setValue_35 : decode cX3_setValue 35 = .ok (.iload_n 2, 1) := by decide +kernel
theorem dX3_setValue_36 : decode cX3_setValue 36 = .ok (.iastore, 1) := by decide +kernel
theorem dX3_setValue_37 : decode cX3_setValue 37 = .ok (.iload_n 3, 1) := by decide +kernel
theorem dX3_setValue_38 : decode cX3_setValue 38 = .ok (.ireturn, 1) := by decide +kernel
set_option maxRecDepth 20000 in
theorem ggX3_value_X3_isVertex : GoodIn wsX3_value wsX3_isVertex := goodIn_r _ [6, 7, 8, 9, 5, 10, 11, 12, 13, 14, 19, 20, 21, 22, 23] (by decide +kernel) (by decide +kernel)
set_option maxRecDepth 20000 in
theorem gX3_value_X3_isVertex : GoodIn wsX3_value (wsV RX3 44 RX3 yX3_isVertex wsX3_isVertex) := goodIn_app (goodIn_of _ (by decide +kernel)) ggX3_value_X3_isVertex
set_option maxRecDepth 20000 in
theorem ggX3_value_X3_valueOf : GoodIn wsX3_value wsX3_valueOf := goodIn_r _ [18, 11, 19, 20, 21, 22, 23] (by decide +kernel) (by decide +kernel)
set_option maxRecDepth 20000 in
theorem gX3_value_X3_valueOf : GoodIn wsX3_value (wsV RX3 76 RX3 yX3_valueOf wsX3_valueOf) := goodIn_app (goodIn_of _ (by decide +kernel)) ggX3_value_X3_valueOf
theorem dX3_value_0 : decode cX3_value 0 = .ok (.aload_n 0, 1) := by decide +kernel
theorem dX3_value_1 : decode cX3_value 1 = .ok (.iload_n 1, 1) := by decide +kernel
theorem dX3_value_2 : decode cX3_value 2 = .ok (.invokevirtual 44, 3) := by decide +kernel
theorem dX3_value_5 : decode cX3_value 5 = .ok (.ifCond .eq 11, 3) := by decide +kernel
theorem dX3_value_8 : decode cX3_value 8 = .ok (.aload_n 0, 1) := by decide +kernel
theorem dX3_value_9 : decode cX3_value 9 = .ok (.iload_n 1, 1) := by decide +kernel
theorem dX3_value_10 : decode cX3_value 10 = .ok (.invokevirtual 76, 3) := by decide +kernel
theorem dX3_value_13 : decode cX3_value 13 = .ok (.goto 5, 3) := by decide +kernel
theorem dX3_value_16 : decode cX3_value 16 = .ok (.ldc 47, 2) := by decide +kernel
theorem dX3_value_18 : decode cX3_value 18 = .ok (.ireturn, 1) := by decide +kernel
set_option maxRecDepth 20000 in
theorem ggX3_setMark_X3_isVertex : GoodIn wsX3_setMark wsX3_isVertex := goodIn_r _ [7, 8, 9, 10, 6, 11, 2, 12, 13, 14, 15, 16, 17, 18, 19] (by decide +kernel) (by decide +kernel)
set_option maxRecDepth 20000 in
theorem gX3_setMark_X3_isVertex : GoodIn wsX3_setMark (wsV RX3 44 RX3 yX3_isVertex wsX3_isVertex) := goodIn_app (goodIn_of _ (by decide +kernel)) ggX3_setMark_X3_isVertex
theorem dX3_setMark_0 : decode cX3_setMark 0 = .ok (.aload_n 0, 1) := by decide +kernel
theorem dX3_setMark_1 : decode cX3_setMark 1 = .ok (.iload_n 1, 1) := by decide +kernel
theorem dX3_setMark_2 : decode cX3_setMark 2 = .ok (.invokevirtual 44, 3) := by decide +kernel
theorem dX3_setMark_5 : decode cX3_setMark 5 = .ok (.ifCond .ne 6, 3) := by decide +kernel
theorem dX3_setMark_8 : decode cX3_setMark 8 = .ok (.ldc 47, 2) := by decide +kernel
theorem dX3_setMark_10 : decode cX3_setMark 10 = .ok (.ireturn, 1) := by decide +kernel
theorem dX3_setMark_11 : decode cX3_setMark 11 = .ok (.aload_n 0, 1) := by decide +kernel
theorem dX3_setMark_12 : decode cX3_setMark 12 = .ok (.getfield 7, 3) := by decide +kernel
theorem dX3_setMark_15 : decode cX3_setMark 15 = .ok (.sipush 129, 3) := by decide +kernel
theorem dX3_setMark_18 : decode cX3_setMark 18 = .ok (.iload_n 1, 1) := by decide +kernel
theorem dX3_setMark_19 : decode cX3_setMark 19 = .ok (.iadd, 1) := by decide +kernel
theorem dX3_setMark_20 : decode cX3_setMark 20 = .ok (.iaload, 1) := by decide +kernel
theorem dX3_setMark_21 : decode cX3_setMark 21 = .ok (.istore_n 3, 1) := by decide +kernel
theorem dX3_setMark_22 : decode cX3_setMark 22 = .ok (.aload_n 0, 1) := by decide +kernel
theorem dX3_setMark_23 : decode cX3_setMark 23 = .ok (.getfield 7, 3) := by decide +kernel
theorem dX3_setMark_26 : decode cX3_setMark 26 = .ok (.sipush 129, 3) := by decide +kernel
theorem dX3_setMark_29 : decode cX3_setMark 29 = .ok (.iload_n 1, 1) := by decide +kernel
theorem dX3_setMark_30 : decode cX3_setMark 30 = .ok (.iadd, 1) := by decide +kernel
theorem dX3_setMark_31 : decode cX3_setMark 31 = .ok (.iload_n 2, 1) := by decide +kernel
theorem dX3_setMark_32 : decode cX3_setMark 32 = .ok (.ifCond .eq 7, 3) := by decide +kernel
theorem dX3_setMark_35 : decode cX3_setMark 35 = .ok (.iconst 1, 1) := by decide +kernel
theorem dX3_setMark_36 : decode cX3_setMark 36 = .ok (.goto 4, 3) := by decide +kernel
theorem dX3_setMark_39 : decode cX3_setMark 39 = .ok (.iconst 0, 1) := by decide +kernel
theorem dX3_setMark_40 : decode cX3_setMark 40 = .ok (.iastore, 1) := by decide +kernel
theorem dX3_setMark_41 : decode cX3_setMark 41 = .ok (.iload_n 3, 1) := by decide +kernel
theorem dX3_setMark_42 : decode cX3_setMark 42 = .ok (.ireturn, 1) := by decide +kernel
set_option maxRecDepth 20000 in
theorem ggX3_nearestMarked_X3_isVertex : GoodIn wsX3_nearestMarked wsX3_isVertex := goodIn_r _ [8, 9, 10, 11, 7, 12, 3, 13, 14, 15, 40, 41, 42, 43, 44] (by decide +kernel) (by decide +kernel)
set_option maxRecDepth 20000 in
theorem gX3_nearestMarked_X3_isVertex : GoodIn wsX3_nearestMarked (wsV RX3 44 RX3 yX3_isVertex wsX3_isVertex) := goodIn_app (goodIn_of _ (by decide +kernel)) ggX3_nearestMarked_X3_isVertex
set_option maxRecDepth 20000 in
theorem ggX3_nearestMarked_X3_rootOf : GoodIn wsX3_nearestMarked wsX3_rootOf := goodIn_r _ [19, 20, 21, 22, 7, 23, 24, 25, 26, 27, 3, 40, 41, 42, 43, 44] (by decide +kernel) (by decide +kernel)
set_option maxRecDepth 20000 in
theorem gX3_nearestMarked_X3_rootOf : GoodIn wsX3_nearestMarked (wsV RX3 49 RX3 yX3_rootOf wsX3_rootOf) := goodIn_app (goodIn_of _ (by decide +kernel)) ggX3_nearestMarked_X3_rootOf
set_option maxRecDepth 20000 in
theorem ggX3_nearestMarked_X3_many : GoodIn wsX3_nearestMarked wsX3_many := goodIn_r _ [12, 3, 40, 41, 42, 43, 44] (by decide +kernel) (by decide +kernel)
set_option maxRecDepth 20000 in
theorem gX3_nearestMarked_X3_many : GoodIn wsX3_nearestMarked (wsV RX3 27 RX3 yX3_many wsX3_many) := goodIn_app (goodIn_of _ (by decide +kernel)) ggX3_nearestMarked_X3_many
set_option maxRecDepth 20000 in
theorem ggX3_nearestMarked_X3_distanceOf : GoodIn wsX3_nearestMarked wsX3_distanceOf := goodIn_r _ [31, 32, 33, 34, 7, 35, 20, 21, 22, 23, 24, 25, 26, 27, 3, 36, 37, 38, 39, 40, 41, 42, 43, 44] (by decide +kernel) (by decide +kernel)
set_option maxRecDepth 20000 in
theorem gX3_nearestMarked_X3_distanceOf : GoodIn wsX3_nearestMarked (wsV RX3 69 RX3 yX3_distanceOf wsX3_distanceOf) := goodIn_app (goodIn_of _ (by decide +kernel)) ggX3_nearestMarked_X3_distanceOf
theorem dX3_nearestMarked_0 : decode cX3_nearestMarked 0 = .ok (.aload_n 0, 1) := by decide +kernel
theorem dX3_nearestMarked_1 : decode cX3_nearestMarked 1 = .ok (.iload_n 1, 1) := by decide +kernel
theorem dX3_nearestMarked_2 : decode cX3_nearestMarked 2 = .ok (.invokevirtual 44, 3) := by decide +kernel
theorem dX3_nearestMarked_5 : decode cX3_nearestMarked 5 = .ok (.ifCond .ne 6, 3) := by decide +kernel
theorem dX3_nearestMarked_8 : decode cX3_nearestMarked 8 = .ok (.ldc 47, 2) := by decide +kernel
theorem dX3_nearestMarked_10 : decode cX3_nearestMarked 10 = .ok (.ireturn, 1) := by decide +kernel
theorem dX3_nearestMarked_11 : decode cX3_nearestMarked 11 = .ok (.aload_n 0, 1) := by decide +kernel
theorem dX3_nearestMarked_12 : decode cX3_nearestMarked 12 = .ok (.iload_n 1, 1) := by decide +kernel
theorem dX3_nearestMarked_13 : decode cX3_nearestMarked 13 = .ok (.invokevirtual 49, 3) := by decide +kernel
theorem dX3_nearestMarked_16 : decode cX3_nearestMarked 16 = .ok (.istore_n 2, 1) := by decide +kernel
theorem dX3_nearestMarked_17 : decode cX3_nearestMarked 17 = .ok (.ldc 53, 2) := by decide +kernel
theorem dX3_nearestMarked_19 : decode cX3_nearestMarked 19 = .ok (.istore_n 3, 1) := by decide +kernel
theorem dX3_nearestMarked_20 : decode cX3_nearestMarked 20 = .ok (.bipush 64, 2) := by decide +kernel
theorem dX3_nearestMarked_22 : decode cX3_nearestMarked 22 = .ok (.istore 4, 2) := by decide +kernel
theorem dX3_nearestMarked_24 : decode cX3_nearestMarked 24 = .ok (.iconst 0, 1) := by decide +kernel
theorem dX3_nearestMarked_25 : decode cX3_nearestMarked 25 = .ok (.istore 5, 2) := by decide +kernel
theorem dX3_nearestMarked_27 : decode cX3_nearestMarked 27 = .ok (.iload 5, 2) := by decide +kernel
theorem dX3_nearestMarked_29 : decode cX3_nearestMarked 29 = .ok (.aload_n 0, 1) := by decide +kernel
theorem dX3_nearestMarked_30 : decode cX3_nearestMarked 30 = .ok (.invokevirtual 27, 3) := by decide +kernel
theorem dX3_nearestMarked_33 : decode cX3_nearestMarked 33 = .ok (.if_icmp .ge 58, 3) := by decide +kernel
theorem dX3_nearestMarked_36 : decode cX3_nearestMarked 36 = .ok (.aload_n 0, 1) := by decide +kernel
theorem dX3_nearestMarked_37 : decode cX3_nearestMarked 37 = .ok (.getfield 7, 3) := by decide +kernel
theorem dX3_nearestMarked_40 : decode cX3_nearestMarked 40 = .ok (.sipush 129, 3) := by decide +kernel
theorem dX3_nearestMarked_43 : decode cX3_nearestMarked 43 = .ok (.iload 5, 2) := by decide +kernel
theorem dX3_nearestMarked_45 : decode cX3_nearestMarked 45 = .ok (.iadd, 1) := by decide +kernel
theorem dX3_nearestMarked_46 : decode cX3_nearestMarked 46 = .ok (.iaload, 1) := by decide +kernel
theorem dX3_nearestMarked_47 : decode cX3_nearestMarked 47 = .ok (.iconst 1, 1) := by decide +kernel
theorem dX3_nearestMarked_48 : decode cX3_nearestMarked 48 = .ok (.if_icmp .ne 37, 3) := by decide +kernel
theorem dX3_nearestMarked_51 : decode cX3_nearestMarked 51 = .ok (.aload_n 0, 1) := by decide +kernel
theorem dX3_nearestMarked_52 : decode cX3_nearestMarked 52 = .ok (.iload 5, 2) := by decide +kernel
theorem dX3_nearestMarked_54 : decode cX3_nearestMarked 54 = .ok (.invokevirtual 49, 3) := by decide +kernel
theorem dX3_nearestMarked_57 : decode cX3_nearestMarked 57 = .ok (.iload_n 2, 1) := by decide +kernel
theorem dX3_nearestMarked_58 : decode cX3_nearestMarked 58 = .ok (.if_icmp .ne 27, 3) := by decide +kernel
theorem dX3_nearestMarked_61 : decode cX3_nearestMarked 61 = .ok (.aload_n 0, 1) := by decide +kernel
theorem dX3_nearestMarked_62 : decode cX3_nearestMarked 62 = .ok (.iload_n 1, 1) := by decide +kernel
theorem dX3_nearestMarked_63 : decode cX3_nearestMarked 63 = .ok (.iload 5, 2) := by decide +kernel
theorem dX3_nearestMarked_65 : decode cX3_nearestMarked 65 = .ok (.invokevirtual 69, 3) := by decide +kernel
theorem dX3_nearestMarked_68 : decode cX3_nearestMarked 68 = .ok (.iload 4, 2) := by decide +kernel
theorem dX3_nearestMarked_70 : decode cX3_nearestMarked 70 = .ok (.if_icmp .ge 15, 3) := by decide +kernel
theorem dX3_nearestMarked_73 : decode cX3_nearestMarked 73 = .ok (.aload_n 0, 1) := by decide +kernel
theorem dX3_nearestMarked_74 : decode cX3_nearestMarked 74 = .ok (.iload_n 1, 1) := by decide +kernel
theorem dX3_nearestMarked_75 : decode cX3_nearestMarked 75 = .ok (.iload 5, 2) := by decide +kernel
theorem dX3_nearestMarked_77 : decode cX3_nearestMarked 77 = .ok (.invokevirtual 69, 3) := by decide +kernel
theorem dX3_nearestMarked_80 : decode cX3_nearestMarked 80 = .ok (.istore 4, 2) := by decide +kernel
theorem dX3_nearestMarked_82 : decode cX3_nearestMarked 82 = .ok (.iload 5, 2) := by decide +kernel
theorem dX3_nearestMarked_84 : decode cX3_nearestMarked 84 = .ok (.istore_n 3, 1) := by decide +kernel
theorem dX3_nearestMarked_85 : decode cX3_nearestMarked 85 = .ok (.iinc 5 1, 3) := by decide +kernel
theorem dX3_nearestMarked_88 : decode cX3_nearestMarked 88 = .ok (.goto (-61), 3) := by decide +kernel
theorem dX3_nearestMarked_91 : decode cX3_nearestMarked 91 = .ok (.iload_n 3, 1) := by decide +kernel
theorem dX3_nearestMarked_92 : decode cX3_nearestMarked 92 = .ok (.ireturn, 1) := by decide +kernel
set_option maxRecDepth 20000 in
theorem ggX3_save_X3_in : GoodIn wsX3_save wsX3_in := goodIn_r _ [8] (by decide +kernel) (by decide +kernel)
set_option maxRecDepth 20000 in
theorem gX3_save_X3_in : GoodIn wsX3_save (va_wsS RX3 31 yX3_in wsX3_in) := goodIn_app (goodIn_of _ (by decide +kernel)) ggX3_save_X3_in
set_option maxRecDepth 20000 in
theorem ggX3_save_X3_many : GoodIn wsX3_save wsX3_many := goodIn_r _ [12, 3, 13, 14, 15, 16, 17] (by decide +kernel) (by decide +kernel)
set_option maxRecDepth 20000 in
theorem gX3_save_X3_many : GoodIn wsX3_save (wsV RX3 27 RX3 yX3_many wsX3_many) := goodIn_app (goodIn_of _ (by decide +kernel)) ggX3_save_X3_many
theorem dX3_save_0 : decode cX3_save 0 = .ok (.iload_n 1, 1) := by decide +kernel
theorem dX3_save_1 : decode cX3_save 1 = .ok (.iconst 0, 1) := by decide +kernel
theorem dX3_save_2 : decode cX3_save 2 = .ok (.iconst 1, 1) := by decide +kernel
theorem dX3_save_3 : decode cX3_save 3 = .ok (.invokestatic 31, 3) := by decide +kernel
theorem dX3_save_6 : decode cX3_save 6 = .ok (.ifCond .ne 6, 3) := by decide +kernel
theorem dX3_save_9 : decode cX3_save 9 = .ok (.ldc 43, 2) := by decide +kernel
theorem dX3_save_11 : decode cX3_save 11 = .ok (.ireturn, 1) := by decide +kernel
theorem dX3_save_12 : decode cX3_save 12 = .ok (.iconst 0, 1) := by decide +kernel
theorem dX3_save_13 : decode cX3_save 13 = .ok (.istore_n 2, 1) := by decide +kernel
theorem dX3_save_14 : decode cX3_save 14 = .ok (.iload_n 2, 1) := by decide +kernel
theorem dX3_save_15 : decode cX3_save 15 = .ok (.sipush 193, 3) := by decide +kernel
theorem dX3_save_18 : decode cX3_save 18 = .ok (.if_icmp .ge 27, 3) := by decide +kernel
theorem dX3_save_21 : decode cX3_save 21 = .ok (.aload_n 0, 1) := by decide +kernel
theorem dX3_save_22 : decode cX3_save 22 = .ok (.getfield 13, 3) := by decide +kernel
theorem dX3_save_25 : decode cX3_save 25 = .ok (.sipush 193, 3) := by decide +kernel
theorem dX3_save_28 : decode cX3_save 28 = .ok (.iload_n 1, 1) := by decide +kernel
theorem dX3_save_29 : decode cX3_save 29 = .ok (.imul, 1) := by decide +kernel
theorem dX3_save_30 : decode cX3_save 30 = .ok (.iload_n 2, 1) := by decide +kernel
theorem dX3_save_31 : decode cX3_save 31 = .ok (.iadd, 1) := by decide +kernel
theorem dX3_save_32 : decode cX3_save 32 = .ok (.aload_n 0, 1) := by decide +kernel
theorem dX3_save_33 : decode cX3_save 33 = .ok (.getfield 7, 3) := by decide +kernel
theorem dX3_save_36 : decode cX3_save 36 = .ok (.iload_n 2, 1) := by decide +kernel
theorem dX3_save_37 : decode cX3_save 37 = .ok (.iaload, 1) := by decide +kernel
theorem dX3_save_38 : decode cX3_save 38 = .ok (.iastore, 1) := by decide +kernel
theorem dX3_save_39 : decode cX3_save 39 = .ok (.iinc 2 1, 3) := by decide +kernel
theorem dX3_save_42 : decode cX3_save 42 = .ok (.goto (-28), 3) := by decide +kernel
theorem dX3_save_45 : decode cX3_save 45 = .ok (.aload_n 0, 1) := by decide +kernel
theorem dX3_save_46 : decode cX3_save 46 = .ok (.getfield 16, 3) := by decide +kernel
theorem dX3_save_49 : decode cX3_save 49 = .ok (.iload_n 1, 1) := by decide +kernel
theorem dX3_save_50 : decode cX3_save 50 = .ok (.iconst 1, 1) := by decide +kernel
theorem dX3_save_51 : decode cX3_save 51 = .ok (.bastore, 1) := by decide +kernel
theorem dX3_save_52 : decode cX3_save 52 = .ok (.aload_n 0, 1) := by decide +kernel
theorem dX3_save_53 : decode cX3_save 53 = .ok (.invokevirtual 27, 3) := by decide +kernel
theorem dX3_save_56 : decode cX3_save 56 = .ok (.ireturn, 1) := by decide +kernel
set_option maxRecDepth 20000 in
theorem ggX3_restore_X3_in : GoodIn wsX3_restore wsX3_in := goodIn_r _ [9] (by decide +kernel) (by decide +kernel)
set_option maxRecDepth 20000 in
theorem gX3_restore_X3_in : GoodIn wsX3_restore (va_wsS RX3 31 yX3_in wsX3_in) := goodIn_app (goodIn_of _ (by decide +kernel)) ggX3_restore_X3_in
set_option maxRecDepth 20000 in
theorem ggX3_restore_X3_many : GoodIn wsX3_restore wsX3_many := goodIn_r _ [13, 4, 14, 15, 16, 17, 18] (by decide +kernel) (by decide +kernel)
set_option maxRecDepth 20000 in
theorem gX3_restore_X3_many : GoodIn wsX3_restore (wsV RX3 27 RX3 yX3_many wsX3_many) := goodIn_app (goodIn_of _ (by decide +kernel)) ggX3_restore_X3_many
theorem dX3_restore_0 : decode cX3_restore 0 = .ok (.iload_n 1, 1) := by decide +kernel
theorem dX3_restore_1 : decode cX3_restore 1 = .ok (.iconst 0, 1) := by decide +kernel
theorem dX3_restore_2 : decode cX3_restore 2 = .ok (.iconst 1, 1) := by decide +kernel
theorem dX3_restore_3 : decode cX3_restore 3 = .ok (.invokestatic 31, 3) := by decide +kernel
theorem dX3_restore_6 : decode cX3_restore 6 = .ok (.ifCond .ne 6, 3) := by decide +kernel
theorem dX3_restore_9 : decode cX3_restore 9 = .ok (.ldc 43, 2) := by decide +kernel
theorem dX3_restore_11 : decode cX3_restore 11 = .ok (.ireturn, 1) := by decide +kernel
theorem dX3_restore_12 : decode cX3_restore 12 = .ok (.aload_n 0, 1) := by decide +kernel
theorem dX3_restore_13 : decode cX3_restore 13 = .ok (.getfield 16, 3) := by decide +kernel
theorem dX3_restore_16 : decode cX3_restore 16 = .ok (.iload_n 1, 1) := by decide +kernel
theorem dX3_restore_17 : decode cX3_restore 17 = .ok (.baload, 1) := by decide +kernel
theorem dX3_restore_18 : decode cX3_restore 18 = .ok (.ifCond .ne 6, 3) := by decide +kernel
theorem dX3_restore_21 : decode cX3_restore 21 = .ok (.ldc 92, 2) := by decide +kernel
theorem dX3_restore_23 : decode cX3_restore 23 = .ok (.ireturn, 1) := by decide +kernel
theorem dX3_restore_24 : decode cX3_restore 24 = .ok (.iconst 0, 1) := by decide +kernel
theorem dX3_restore_25 : decode cX3_restore 25 = .ok (.istore_n 2, 1) := by decide +kernel
theorem dX3_restore_26 : decode cX3_restore 26 = .ok (.iload_n 2, 1) := by decide +kernel
theorem dX3_restore_27 : decode cX3_restore 27 = .ok (.sipush 193, 3) := by decide +kernel
theorem dX3_restore_30 : decode cX3_restore 30 = .ok (.if_icmp .ge 27, 3) := by decide +kernel
theorem dX3_restore_33 : decode cX3_restore 33 = .ok (.aload_n 0, 1) := by decide +kernel
theorem dX3_restore_34 : decode cX3_restore 34 = .ok (.getfield 7, 3) := by decide +kernel
theorem dX3_restore_37 : decode cX3_restore 37 = .ok (.iload_n 2, 1) := by decide +kernel
theorem dX3_restore_38 : decode cX3_restore 38 = .ok (.aload_n 0, 1) := by decide +kernel
theorem dX3_restore_39 : decode cX3_restore 39 = .ok (.getfield 13, 3) := by decide +kernel
theorem dX3_restore_42 : decode cX3_restore 42 = .ok (.sipush 193, 3) := by decide +kernel
theorem dX3_restore_45 : decode cX3_restore 45 = .ok (.iload_n 1, 1) := by decide +kernel
theorem dX3_restore_46 : decode cX3_restore 46 = .ok (.imul, 1) := by decide +kernel
theorem dX3_restore_47 : decode cX3_restore 47 = .ok (.iload_n 2, 1) := by decide +kernel
theorem dX3_restore_48 : decode cX3_restore 48 = .ok (.iadd, 1) := by decide +kernel
theorem dX3_restore_49 : decode cX3_restore 49 = .ok (.iaload, 1) := by decide +kernel
theorem dX3_restore_50 : decode cX3_restore 50 = .ok (.iastore, 1) := by decide +kernel
theorem dX3_restore_51 : decode cX3_restore 51 = .ok (.iinc 2 1, 3) := by decide +kernel
theorem dX3_restore_54 : decode cX3_restore 54 = .ok (.goto (-28), 3) := by decide +kernel
theorem dX3_restore_57 : decode cX3_restore 57 = .ok (.aload_n 0, 1) := by decide +kernel
theorem dX3_restore_58 : decode cX3_restore 58 = .ok (.invokevirtual 27, 3) := by decide +kernel
theorem dX3_restore_61 : decode cX3_restore 61 = .ok (.ireturn, 1) := by decide +kernel
end
section
set_option maxRecDepth 20000 in
theorem ggL_law_X2_init : GoodIn wsL_law wsX2_init := goodIn_r _ [8, 9, 10, 11, 12, 13, 14, 15, 16, 17, 18, 19, 20, 21, 22, 23, 24, 25, 26, 27, 28, 29, 30, 31, 32, 33, 34, 35, 36, 37, 38, 39, 40, 41, 535, 536, 537, 538, 526, 527, 528, 529, 539, 540] (by decide +kernel) (by decide +kernel)
set_option maxRecDepth 20000 in
theorem gL_law_X2_init : GoodIn wsL_law (wsX2_init) := ggL_law_X2_init
set_option maxRecDepth 20000 in
theorem ggL_law_X3_init : GoodIn wsL_law wsX3_init := goodIn_r _ [44, 45, 10, 11, 27, 46, 47, 30, 48, 49, 50, 51, 52, 5, 53, 530, 531, 532, 533, 534] (by decide +kernel) (by decide +kernel)
set_option maxRecDepth 20000 in
theorem gL_law_X3_init : GoodIn wsL_law (wsX3_init) := ggL_law_X3_init
set_option maxRecDepth 20000 in
theorem ggL_law_X2_reset : GoodIn wsL_law wsX2_reset := goodIn_r _ [57, 58, 15, 59, 60, 61, 14, 62, 26, 38, 39, 40, 41, 28, 29, 31, 526, 527, 528, 529, 535, 536, 537, 538] (by decide +kernel) (by decide +kernel)
set_option maxRecDepth 20000 in
theorem gL_law_X2_reset : GoodIn wsL_law (wsV RL 13 RX2 yX2_reset wsX2_reset) := goodIn_app (goodIn_of _ (by decide +kernel)) ggL_law_X2_reset
set_option maxRecDepth 20000 in
theorem ggL_law_X3_reset : GoodIn wsL_law wsX3_reset := goodIn_r _ [66, 67, 68, 69, 5, 70, 71, 72, 73, 74, 46, 50, 51, 52, 53, 530, 531, 532, 533, 534] (by decide +kernel) (by decide +kernel)
set_option maxRecDepth 20000 in
theorem gL_law_X3_reset : GoodIn wsL_law (wsV RL 17 RX3 yX3_reset wsX3_reset) := goodIn_app (goodIn_of _ (by decide +kernel)) ggL_law_X3_reset
set_option maxRecDepth 20000 in
theorem ggL_law_X2_link : GoodIn wsL_law wsX2_link := goodIn_r _ [78, 15, 79, 80, 81, 82, 83, 84, 14, 85, 26, 86, 87, 88, 89, 90, 91, 92, 93, 28, 94, 95, 96, 97, 98, 99, 100, 101, 102, 103, 104, 105, 106, 107, 108, 109, 110, 111, 112, 113, 114, 115, 116, 117, 118, 526, 527, 528, 529, 535, 536, 537, 538] (by decide +kernel) (by decide +kernel)
set_option maxRecDepth 20000 in
theorem gL_law_X2_link : GoodIn wsL_law (wsV RL 18 RX2 yX2_link wsX2_link) := goodIn_app (goodIn_of _ (by decide +kernel)) ggL_law_X2_link
set_option maxRecDepth 20000 in
theorem ggL_law_X3_link : GoodIn wsL_law wsX3_link := goodIn_r _ [122, 123, 124, 125, 46, 126, 127, 128, 5, 129, 71, 72, 73, 74, 68, 69, 70, 130, 131, 132, 133, 134, 135, 136, 137, 138, 139, 140, 141, 530, 531, 532, 533, 534] (by decide +kernel) (by decide +kernel)
set_option maxRecDepth 20000 in
theorem gL_law_X3_link : GoodIn wsL_law (wsV RL 22 RX3 yX3_link wsX3_link) := goodIn_app (goodIn_of _ (by decide +kernel)) ggL_law_X3_link
set_option maxRecDepth 20000 in
theorem ggL_law_X2_cut : GoodIn wsL_law wsX2_cut := goodIn_r _ [145, 15, 79, 146, 82, 83, 84, 14, 85, 26, 86, 87, 88, 89, 90, 91, 92, 93, 28, 94, 147, 107, 108, 109, 110, 526, 527, 528, 529, 535, 536, 537, 538] (by decide +kernel) (by decide +kernel)
set_option maxRecDepth 20000 in
theorem gL_law_X2_cut : GoodIn wsL_law (wsV RL 23 RX2 yX2_cut wsX2_cut) := goodIn_app (goodIn_of _ (by decide +kernel)) ggL_law_X2_cut
set_option maxRecDepth 20000 in
theorem ggL_law_X3_cut : GoodIn wsL_law wsX3_cut := goodIn_r _ [151, 123, 152, 46, 126, 127, 128, 5, 129, 71, 72, 73, 74, 68, 69, 70, 130, 131, 132, 133, 134, 135, 136, 137, 530, 531, 532, 533, 534] (by decide +kernel) (by decide +kernel)
set_option maxRecDepth 20000 in
theorem gL_law_X3_cut : GoodIn wsL_law (wsV RL 26 RX3 yX3_cut wsX3_cut) := goodIn_app (goodIn_of _ (by decide +kernel)) ggL_law_X3_cut
set_option maxRecDepth 20000 in
theorem ggL_law_X2_reroot : GoodIn wsL_law wsX2_reroot := goodIn_r _ [156, 15, 79, 82, 83, 84, 14, 85, 26, 95, 96, 97, 98, 99, 100, 101, 102, 90, 91, 92, 93, 28, 94, 103, 104, 105, 106, 157, 158, 159, 160, 161, 108, 109, 110, 526, 527, 528, 529, 535, 536, 537, 538] (by decide +kernel) (by decide +kernel)
set_option maxRecDepth 20000 in
theorem gL_law_X2_reroot : GoodIn wsL_law (wsV RL 27 RX2 yX2_reroot wsX2_reroot) := goodIn_app (goodIn_of _ (by decide +kernel)) ggL_law_X2_reroot
set_option maxRecDepth 20000 in
theorem ggL_law_X3_reroot : GoodIn wsL_law wsX3_reroot := goodIn_r _ [165, 123, 46, 126, 127, 128, 5, 129, 71, 72, 73, 74, 68, 69, 70, 138, 139, 140, 141, 130, 131, 132, 133, 134, 135, 136, 137, 530, 531, 532, 533, 534] (by decide +kernel) (by decide +kernel)
set_option maxRecDepth 20000 in
theorem gL_law_X3_reroot : GoodIn wsL_law (wsV RL 30 RX3 yX3_reroot wsX3_reroot) := goodIn_app (goodIn_of _ (by decide +kernel)) ggL_law_X3_reroot
set_option maxRecDepth 20000 in
theorem ggL_law_X2_vertexCount : GoodIn wsL_law wsX2_vertexCount := goodIn_r _ [169, 15, 59, 60, 61, 14, 62, 26, 526, 527, 528, 529, 535, 536, 537, 538] (by decide +kernel) (by decide +kernel)
set_option maxRecDepth 20000 in
theorem gL_law_X2_vertexCount : GoodIn wsL_law (wsV RL 31 RX2 yX2_vertexCount wsX2_vertexCount) := goodIn_app (goodIn_of _ (by decide +kernel)) ggL_law_X2_vertexCount
set_option maxRecDepth 20000 in
theorem ggL_law_X3_vertexCount : GoodIn wsL_law wsX3_vertexCount := goodIn_r _ [173, 71, 72, 73, 5, 74, 46, 530, 531, 532, 533, 534] (by decide +kernel) (by decide +kernel)
set_option maxRecDepth 20000 in
theorem gL_law_X3_vertexCount : GoodIn wsL_law (wsV RL 35 RX3 yX3_vertexCount wsX3_vertexCount) := goodIn_app (goodIn_of _ (by decide +kernel)) ggL_law_X3_vertexCount
set_option maxRecDepth 20000 in
theorem ggL_law_X2_treeCount : GoodIn wsL_law wsX2_treeCount := goodIn_r _ [177, 15, 178, 179, 180, 14, 181, 26, 182, 87, 88, 89, 90, 91, 92, 93, 28, 94, 83, 84, 85, 526, 527, 528, 529, 535, 536, 537, 538] (by decide +kernel) (by decide +kernel)
set_option maxRecDepth 20000 in
theorem gL_law_X2_treeCount : GoodIn wsL_law (wsV RL 36 RX2 yX2_treeCount wsX2_treeCount) := goodIn_app (goodIn_of _ (by decide +kernel)) ggL_law_X2_treeCount
set_option maxRecDepth 20000 in
theorem ggL_law_X3_treeCount : GoodIn wsL_law wsX3_treeCount := goodIn_r _ [186, 71, 72, 73, 5, 74, 46, 130, 131, 132, 133, 134, 135, 136, 137, 530, 531, 532, 533, 534] (by decide +kernel) (by decide +kernel)
set_option maxRecDepth 20000 in
theorem gL_law_X3_treeCount : GoodIn wsL_law (wsV RL 39 RX3 yX3_treeCount wsX3_treeCount) := goodIn_app (goodIn_of _ (by decide +kernel)) ggL_law_X3_treeCount
set_option maxRecDepth 20000 in
theorem ggL_law_X2_parent : GoodIn wsL_law wsX2_parent := goodIn_r _ [190, 15, 79, 146, 82, 83, 84, 14, 85, 26, 86, 87, 88, 89, 90, 91, 92, 93, 28, 94, 147, 526, 527, 528, 529, 535, 536, 537, 538] (by decide +kernel) (by decide +kernel)
set_option maxRecDepth 20000 in
theorem gL_law_X2_parent : GoodIn wsL_law (wsV RL 40 RX2 yX2_parent wsX2_parent) := goodIn_app (goodIn_of _ (by decide +kernel)) ggL_law_X2_parent
set_option maxRecDepth 20000 in
theorem ggL_law_X3_parent : GoodIn wsL_law wsX3_parent := goodIn_r _ [194, 123, 152, 126, 127, 128, 5, 129, 71, 72, 73, 74, 46, 68, 69, 70, 130, 131, 132, 133, 134, 135, 136, 137, 530, 531, 532, 533, 534] (by decide +kernel) (by decide +kernel)
set_option maxRecDepth 20000 in
theorem gL_law_X3_parent : GoodIn wsL_law (wsV RL 43 RX3 yX3_parent wsX3_parent) := goodIn_app (goodIn_of _ (by decide +kernel)) ggL_law_X3_parent
set_option maxRecDepth 20000 in
theorem ggL_law_X2_root : GoodIn wsL_law wsX2_root := goodIn_r _ [198, 15, 79, 82, 83, 84, 14, 85, 26, 95, 96, 97, 98, 99, 100, 101, 102, 90, 91, 92, 93, 28, 94, 103, 104, 105, 106, 526, 527, 528, 529, 535, 536, 537, 538] (by decide +kernel) (by decide +kernel)
set_option maxRecDepth 20000 in
theorem gL_law_X2_root : GoodIn wsL_law (wsV RL 44 RX2 yX2_root wsX2_root) := goodIn_app (goodIn_of _ (by decide +kernel)) ggL_law_X2_root
set_option maxRecDepth 20000 in
theorem ggL_law_X3_root : GoodIn wsL_law wsX3_root := goodIn_r _ [202, 123, 126, 127, 128, 5, 129, 71, 72, 73, 74, 46, 68, 69, 70, 138, 139, 140, 141, 130, 131, 132, 133, 134, 135, 136, 137, 530, 531, 532, 533, 534] (by decide +kernel) (by decide +kernel)
set_option maxRecDepth 20000 in
theorem gL_law_X3_root : GoodIn wsL_law (wsV RL 47 RX3 yX3_root wsX3_root) := goodIn_app (goodIn_of _ (by decide +kernel)) ggL_law_X3_root
set_option maxRecDepth 20000 in
theorem ggL_law_X2_depth : GoodIn wsL_law wsX2_depth := goodIn_r _ [206, 15, 79, 82, 83, 84, 14, 85, 26, 207, 100, 101, 102, 90, 91, 92, 93, 28, 94, 526, 527, 528, 529, 535, 536, 537, 538] (by decide +kernel) (by decide +kernel)
set_option maxRecDepth 20000 in
theorem gL_law_X2_depth : GoodIn wsL_law (wsV RL 48 RX2 yX2_depth wsX2_depth) := goodIn_app (goodIn_of _ (by decide +kernel)) ggL_law_X2_depth
set_option maxRecDepth 20000 in
theorem ggL_law_X3_depth : GoodIn wsL_law wsX3_depth := goodIn_r _ [211, 123, 126, 127, 128, 5, 129, 71, 72, 73, 74, 46, 68, 69, 70, 212, 213, 214, 215, 130, 131, 132, 133, 134, 135, 136, 137, 530, 531, 532, 533, 534] (by decide +kernel) (by decide +kernel)
set_option maxRecDepth 20000 in
theorem gL_law_X3_depth : GoodIn wsL_law (wsV RL 51 RX3 yX3_depth wsX3_depth) := goodIn_app (goodIn_of _ (by decide +kernel)) ggL_law_X3_depth
set_option maxRecDepth 20000 in
theorem ggL_law_X2_connected : GoodIn wsL_law wsX2_connected := goodIn_r _ [219, 15, 79, 82, 83, 84, 14, 85, 26, 95, 96, 97, 98, 99, 100, 101, 102, 90, 91, 92, 93, 28, 94, 103, 104, 105, 106, 526, 527, 528, 529, 535, 536, 537, 538] (by decide +kernel) (by decide +kernel)
set_option maxRecDepth 20000 in
theorem gL_law_X2_connected : GoodIn wsL_law (wsV RL 52 RX2 yX2_connected wsX2_connected) := goodIn_app (goodIn_of _ (by decide +kernel)) ggL_law_X2_connected
set_option maxRecDepth 20000 in
theorem ggL_law_X3_connected : GoodIn wsL_law wsX3_connected := goodIn_r _ [223, 123, 126, 127, 128, 5, 129, 71, 72, 73, 74, 46, 68, 69, 70, 138, 139, 140, 141, 130, 131, 132, 133, 134, 135, 136, 137, 530, 531, 532, 533, 534] (by decide +kernel) (by decide +kernel)
set_option maxRecDepth 20000 in
theorem gL_law_X3_connected : GoodIn wsL_law (wsV RL 55 RX3 yX3_connected wsX3_connected) := goodIn_app (goodIn_of _ (by decide +kernel)) ggL_law_X3_connected
set_option maxRecDepth 20000 in
theorem ggL_law_X2_commonAncestor : GoodIn wsL_law wsX2_commonAncestor := goodIn_r _ [227, 15, 228, 229, 230, 2, 231, 79, 232, 82, 83, 84, 14, 85, 26, 95, 96, 97, 98, 99, 100, 101, 102, 90, 91, 92, 93, 28, 94, 103, 104, 105, 106, 233, 234, 235, 236, 526, 527, 528, 529, 535, 536, 537, 538] (by decide +kernel) (by decide +kernel)
set_option maxRecDepth 20000 in
theorem gL_law_X2_commonAncestor : GoodIn wsL_law (wsV RL 56 RX2 yX2_commonAncestor wsX2_commonAncestor) := goodIn_app (goodIn_of _ (by decide +kernel)) ggL_law_X2_commonAncestor
set_option maxRecDepth 20000 in
theorem ggL_law_X3_commonAncestor : GoodIn wsL_law wsX3_commonAncestor := goodIn_r _ [240, 241, 242, 243, 5, 244, 123, 245, 126, 127, 128, 129, 71, 72, 73, 74, 46, 68, 69, 70, 138, 139, 140, 141, 130, 131, 132, 133, 134, 135, 136, 137, 246, 247, 248, 249, 212, 213, 214, 215, 530, 531, 532, 533, 534] (by decide +kernel) (by decide +kernel)
set_option maxRecDepth 20000 in
theorem gL_law_X3_commonAncestor : GoodIn wsL_law (wsV RL 59 RX3 yX3_commonAncestor wsX3_commonAncestor) := goodIn_app (goodIn_of _ (by decide +kernel)) ggL_law_X3_commonAncestor
set_option maxRecDepth 20000 in
theorem ggL_law_X2_distance : GoodIn wsL_law wsX2_distance := goodIn_r _ [253, 15, 228, 229, 230, 2, 231, 79, 232, 82, 83, 84, 14, 85, 26, 95, 96, 97, 98, 99, 100, 101, 102, 90, 91, 92, 93, 28, 94, 103, 104, 105, 106, 254, 255, 256, 257, 258, 234, 235, 236, 526, 527, 528, 529, 535, 536, 537, 538] (by decide +kernel) (by decide +kernel)
set_option maxRecDepth 20000 in
theorem gL_law_X2_distance : GoodIn wsL_law (wsV RL 60 RX2 yX2_distance wsX2_distance) := goodIn_app (goodIn_of _ (by decide +kernel)) ggL_law_X2_distance
set_option maxRecDepth 20000 in
theorem ggL_law_X3_distance : GoodIn wsL_law wsX3_distance := goodIn_r _ [262, 241, 242, 243, 5, 244, 123, 245, 126, 127, 128, 129, 71, 72, 73, 74, 46, 68, 69, 70, 138, 139, 140, 141, 130, 131, 132, 133, 134, 135, 136, 137, 263, 264, 265, 266, 212, 213, 214, 215, 246, 247, 248, 249, 530, 531, 532, 533, 534] (by decide +kernel) (by decide +kernel)
set_option maxRecDepth 20000 in
theorem gL_law_X3_distance : GoodIn wsL_law (wsV RL 63 RX3 yX3_distance wsX3_distance) := goodIn_app (goodIn_of _ (by decide +kernel)) ggL_law_X3_distance
set_option maxRecDepth 20000 in
theorem ggL_law_X2_pathVertex : GoodIn wsL_law wsX2_pathVertex := goodIn_r _ [270, 21, 146, 271, 272, 273, 2, 274, 15, 228, 229, 230, 231, 79, 232, 82, 83, 84, 14, 85, 26, 95, 96, 97, 98, 99, 100, 101, 102, 90, 91, 92, 93, 28, 94, 103, 104, 105, 106, 275, 276, 277, 20, 278, 37, 279, 234, 235, 236, 280, 281, 282, 283, 284, 285, 286, 287, 36, 288, 289, 290, 291, 292, 293, 294, 295, 296, 297, 298, 299, 300, 301, 302, 303, 304, 305, 526, 527, 528, 529, 535, 536, 537, 538, 539, 540] (by decide +kernel) (by decide +kernel)
set_option maxRecDepth 20000 in
theorem gL_law_X2_pathVertex : GoodIn wsL_law (wsV RL 64 RX2 yX2_pathVertex wsX2_pathVertex) := goodIn_app (goodIn_of _ (by decide +kernel)) ggL_law_X2_pathVertex
set_option maxRecDepth 20000 in
theorem ggL_law_X3_pathVertex : GoodIn wsL_law wsX3_pathVertex := goodIn_r _ [309, 310, 49, 152, 241, 242, 243, 5, 244, 123, 245, 126, 127, 128, 129, 71, 72, 73, 74, 46, 68, 69, 70, 138, 139, 140, 141, 130, 131, 132, 133, 134, 135, 136, 137, 311, 312, 313, 314, 246, 247, 248, 249, 212, 213, 214, 215, 530, 531, 532, 533, 534] (by decide +kernel) (by decide +kernel)
set_option maxRecDepth 20000 in
theorem gL_law_X3_pathVertex : GoodIn wsL_law (wsV RL 68 RX3 yX3_pathVertex wsX3_pathVertex) := goodIn_app (goodIn_of _ (by decide +kernel)) ggL_law_X3_pathVertex
set_option maxRecDepth 20000 in
theorem ggL_law_X2_pathSum : GoodIn wsL_law wsX2_pathSum := goodIn_r _ [318, 21, 15, 271, 272, 273, 2, 274, 228, 229, 230, 231, 79, 232, 82, 83, 84, 14, 85, 26, 95, 96, 97, 98, 99, 100, 101, 102, 90, 91, 92, 93, 28, 94, 103, 104, 105, 106, 275, 276, 277, 20, 278, 37, 279, 234, 235, 236, 280, 281, 282, 283, 284, 285, 286, 287, 36, 288, 289, 290, 291, 292, 293, 294, 295, 296, 297, 298, 299, 300, 319, 320, 321, 322, 302, 303, 304, 305, 323, 324, 325, 326, 29, 526, 527, 528, 529, 535, 536, 537, 538, 539, 540] (by decide +kernel) (by decide +kernel)
set_option maxRecDepth 20000 in
theorem gL_law_X2_pathSum : GoodIn wsL_law (wsV RL 69 RX2 yX2_pathSum wsX2_pathSum) := goodIn_app (goodIn_of _ (by decide +kernel)) ggL_law_X2_pathSum
set_option maxRecDepth 20000 in
theorem ggL_law_X3_pathSum : GoodIn wsL_law wsX3_pathSum := goodIn_r _ [330, 310, 49, 241, 242, 243, 5, 244, 123, 245, 126, 127, 128, 129, 71, 72, 73, 74, 46, 68, 69, 70, 138, 139, 140, 141, 130, 131, 132, 133, 134, 135, 136, 137, 311, 312, 313, 314, 246, 247, 248, 249, 212, 213, 214, 215, 331, 332, 333, 334, 530, 531, 532, 533, 534] (by decide +kernel) (by decide +kernel)
set_option maxRecDepth 20000 in
theorem gL_law_X3_pathSum : GoodIn wsL_law (wsV RL 72 RX3 yX3_pathSum wsX3_pathSum) := goodIn_app (goodIn_of _ (by decide +kernel)) ggL_law_X3_pathSum
set_option maxRecDepth 20000 in
theorem ggL_law_X2_pathMinimum : GoodIn wsL_law wsX2_pathMinimum := goodIn_r _ [338, 21, 15, 271, 272, 273, 2, 274, 228, 229, 230, 231, 79, 232, 82, 83, 84, 14, 85, 26, 95, 96, 97, 98, 99, 100, 101, 102, 90, 91, 92, 93, 28, 94, 103, 104, 105, 106, 275, 276, 277, 20, 278, 37, 279, 234, 235, 236, 280, 281, 282, 283, 284, 285, 286, 287, 36, 288, 289, 290, 291, 292, 293, 294, 295, 296, 297, 298, 299, 300, 319, 320, 321, 322, 302, 303, 304, 305, 323, 324, 325, 326, 29, 526, 527, 528, 529, 535, 536, 537, 538, 539, 540] (by decide +kernel) (by decide +kernel)
set_option maxRecDepth 20000 in
theorem gL_law_X2_pathMinimum : GoodIn wsL_law (wsV RL 73 RX2 yX2_pathMinimum wsX2_pathMinimum) := goodIn_app (goodIn_of _ (by decide +kernel)) ggL_law_X2_pathMinimum
set_option maxRecDepth 20000 in
theorem ggL_law_X3_pathMinimum : GoodIn wsL_law wsX3_pathMinimum := goodIn_r _ [342, 241, 242, 243, 5, 244, 123, 245, 126, 127, 128, 129, 71, 72, 73, 74, 46, 68, 69, 70, 138, 139, 140, 141, 130, 131, 132, 133, 134, 135, 136, 137, 311, 312, 313, 314, 310, 49, 246, 247, 248, 249, 212, 213, 214, 215, 343, 344, 345, 346, 331, 332, 333, 334, 530, 531, 532, 533, 534] (by decide +kernel) (by decide +kernel)
set_option maxRecDepth 20000 in
theorem gL_law_X3_pathMinimum : GoodIn wsL_law (wsV RL 76 RX3 yX3_pathMinimum wsX3_pathMinimum) := goodIn_app (goodIn_of _ (by decide +kernel)) ggL_law_X3_pathMinimum
set_option maxRecDepth 20000 in
theorem ggL_law_X2_pathMaximum : GoodIn wsL_law wsX2_pathMaximum := goodIn_r _ [350, 21, 15, 271, 272, 273, 2, 274, 228, 229, 230, 231, 79, 232, 82, 83, 84, 14, 85, 26, 95, 96, 97, 98, 99, 100, 101, 102, 90, 91, 92, 93, 28, 94, 103, 104, 105, 106, 275, 276, 277, 20, 278, 37, 279, 234, 235, 236, 280, 281, 282, 283, 284, 285, 286, 287, 36, 288, 289, 290, 291, 292, 293, 294, 295, 296, 297, 298, 299, 300, 319, 320, 321, 322, 302, 303, 304, 305, 323, 324, 325, 326, 29, 526, 527, 528, 529, 535, 536, 537, 538, 539, 540] (by decide +kernel) (by decide +kernel)
set_option maxRecDepth 20000 in
theorem gL_law_X2_pathMaximum : GoodIn wsL_law (wsV RL 77 RX2 yX2_pathMaximum wsX2_pathMaximum) := goodIn_app (goodIn_of _ (by decide +kernel)) ggL_law_X2_pathMaximum
set_option maxRecDepth 20000 in
theorem ggL_law_X3_pathMaximum : GoodIn wsL_law wsX3_pathMaximum := goodIn_r _ [354, 241, 242, 243, 5, 244, 123, 245, 126, 127, 128, 129, 71, 72, 73, 74, 46, 68, 69, 70, 138, 139, 140, 141, 130, 131, 132, 133, 134, 135, 136, 137, 311, 312, 313, 314, 310, 49, 246, 247, 248, 249, 212, 213, 214, 215, 343, 344, 345, 346, 331, 332, 333, 334, 530, 531, 532, 533, 534] (by decide +kernel) (by decide +kernel)
set_option maxRecDepth 20000 in
theorem gL_law_X3_pathMaximum : GoodIn wsL_law (wsV RL 80 RX3 yX3_pathMaximum wsX3_pathMaximum) := goodIn_app (goodIn_of _ (by decide +kernel)) ggL_law_X3_pathMaximum
set_option maxRecDepth 20000 in
theorem ggL_law_X2_reach : GoodIn wsL_law wsX2_reach := goodIn_r _ [358, 21, 15, 146, 271, 272, 273, 2, 274, 228, 229, 230, 231, 79, 232, 82, 83, 84, 14, 85, 26, 95, 96, 97, 98, 99, 100, 101, 102, 90, 91, 92, 93, 28, 94, 103, 104, 105, 106, 275, 276, 277, 20, 278, 37, 279, 234, 235, 236, 280, 281, 282, 283, 284, 285, 286, 287, 36, 288, 289, 290, 291, 292, 293, 294, 295, 296, 297, 298, 299, 300, 319, 320, 321, 322, 302, 303, 304, 305, 323, 324, 325, 326, 29, 526, 527, 528, 529, 535, 536, 537, 538, 539, 540] (by decide +kernel) (by decide +kernel)
set_option maxRecDepth 20000 in
theorem gL_law_X2_reach : GoodIn wsL_law (wsV RL 81 RX2 yX2_reach wsX2_reach) := goodIn_app (goodIn_of _ (by decide +kernel)) ggL_law_X2_reach
set_option maxRecDepth 20000 in
theorem ggL_law_X3_reach : GoodIn wsL_law wsX3_reach := goodIn_r _ [362, 310, 49, 152, 241, 242, 243, 5, 244, 123, 245, 126, 127, 128, 129, 71, 72, 73, 74, 46, 68, 69, 70, 138, 139, 140, 141, 130, 131, 132, 133, 134, 135, 136, 137, 311, 312, 313, 314, 246, 247, 248, 249, 212, 213, 214, 215, 331, 332, 333, 334, 530, 531, 532, 533, 534] (by decide +kernel) (by decide +kernel)
set_option maxRecDepth 20000 in
theorem gL_law_X3_reach : GoodIn wsL_law (wsV RL 84 RX3 yX3_reach wsX3_reach) := goodIn_app (goodIn_of _ (by decide +kernel)) ggL_law_X3_reach
set_option maxRecDepth 20000 in
theorem ggL_law_X2_addOnPath : GoodIn wsL_law wsX2_addOnPath := goodIn_r _ [366, 58, 21, 15, 367, 271, 272, 273, 2, 274, 228, 229, 230, 231, 79, 232, 82, 83, 84, 14, 85, 26, 95, 96, 97, 98, 99, 100, 101, 102, 90, 91, 92, 93, 28, 94, 103, 104, 105, 106, 275, 276, 277, 20, 278, 37, 279, 234, 235, 236, 280, 281, 282, 283, 284, 285, 286, 287, 36, 288, 289, 290, 291, 292, 293, 294, 295, 296, 297, 298, 299, 300, 368, 369, 370, 371, 372, 319, 320, 321, 322, 302, 303, 304, 305, 323, 324, 325, 326, 29, 373, 374, 375, 376, 526, 527, 528, 529, 535, 536, 537, 538, 539, 540] (by decide +kernel) (by decide +kernel)
set_option maxRecDepth 20000 in
theorem gL_law_X2_addOnPath : GoodIn wsL_law (wsV RL 85 RX2 yX2_addOnPath wsX2_addOnPath) := goodIn_app (goodIn_of _ (by decide +kernel)) ggL_law_X2_addOnPath
set_option maxRecDepth 20000 in
theorem ggL_law_X3_addOnPath : GoodIn wsL_law wsX3_addOnPath := goodIn_r _ [380, 67, 310, 49, 381, 46, 241, 242, 243, 5, 244, 123, 245, 126, 127, 128, 129, 71, 72, 73, 74, 68, 69, 70, 138, 139, 140, 141, 130, 131, 132, 133, 134, 135, 136, 137, 382, 383, 384, 385, 386, 311, 312, 313, 314, 246, 247, 248, 249, 212, 213, 214, 215, 331, 332, 333, 334, 530, 531, 532, 533, 534] (by decide +kernel) (by decide +kernel)
set_option maxRecDepth 20000 in
theorem gL_law_X3_addOnPath : GoodIn wsL_law (wsV RL 88 RX3 yX3_addOnPath wsX3_addOnPath) := goodIn_app (goodIn_of _ (by decide +kernel)) ggL_law_X3_addOnPath
set_option maxRecDepth 20000 in
theorem ggL_law_X2_setOnPath : GoodIn wsL_law wsX2_setOnPath := goodIn_r _ [390, 58, 21, 15, 271, 272, 273, 2, 274, 228, 229, 230, 231, 79, 232, 82, 83, 84, 14, 85, 26, 95, 96, 97, 98, 99, 100, 101, 102, 90, 91, 92, 93, 28, 94, 103, 104, 105, 106, 275, 276, 277, 20, 278, 37, 279, 234, 235, 236, 280, 281, 282, 283, 284, 285, 286, 287, 36, 288, 289, 290, 291, 292, 293, 294, 295, 296, 297, 298, 299, 300, 368, 369, 370, 371, 372, 319, 320, 321, 322, 302, 303, 304, 305, 373, 374, 375, 376, 29, 526, 527, 528, 529, 535, 536, 537, 538, 539, 540] (by decide +kernel) (by decide +kernel)
set_option maxRecDepth 20000 in
theorem gL_law_X2_setOnPath : GoodIn wsL_law (wsV RL 89 RX2 yX2_setOnPath wsX2_setOnPath) := goodIn_app (goodIn_of _ (by decide +kernel)) ggL_law_X2_setOnPath
set_option maxRecDepth 20000 in
theorem ggL_law_X3_setOnPath : GoodIn wsL_law wsX3_setOnPath := goodIn_r _ [394, 67, 310, 46, 49, 241, 242, 243, 5, 244, 123, 245, 126, 127, 128, 129, 71, 72, 73, 74, 68, 69, 70, 138, 139, 140, 141, 130, 131, 132, 133, 134, 135, 136, 137, 382, 383, 384, 385, 386, 311, 312, 313, 314, 246, 247, 248, 249, 212, 213, 214, 215, 530, 531, 532, 533, 534] (by decide +kernel) (by decide +kernel)
set_option maxRecDepth 20000 in
theorem gL_law_X3_setOnPath : GoodIn wsL_law (wsV RL 92 RX3 yX3_setOnPath wsX3_setOnPath) := goodIn_app (goodIn_of _ (by decide +kernel)) ggL_law_X3_setOnPath
set_option maxRecDepth 20000 in
theorem ggL_law_X2_reverseValues : GoodIn wsL_law wsX2_reverseValues := goodIn_r _ [398, 21, 15, 271, 272, 273, 2, 274, 228, 229, 230, 231, 79, 232, 82, 83, 84, 14, 85, 26, 95, 96, 97, 98, 99, 100, 101, 102, 90, 91, 92, 93, 28, 94, 103, 104, 105, 106, 275, 276, 277, 20, 278, 37, 279, 234, 235, 236, 280, 281, 282, 283, 284, 285, 286, 287, 36, 288, 289, 290, 291, 292, 293, 294, 295, 296, 297, 298, 299, 300, 319, 320, 321, 322, 302, 303, 304, 305, 399, 400, 401, 402, 403, 324, 325, 326, 29, 404, 374, 375, 376, 526, 527, 528, 529, 535, 536, 537, 538, 539, 540] (by decide +kernel) (by decide +kernel)
set_option maxRecDepth 20000 in
theorem gL_law_X2_reverseValues : GoodIn wsL_law (wsV RL 93 RX2 yX2_reverseValues wsX2_reverseValues) := goodIn_app (goodIn_of _ (by decide +kernel)) ggL_law_X2_reverseValues
set_option maxRecDepth 20000 in
theorem ggL_law_X3_reverseValues : GoodIn wsL_law wsX3_reverseValues := goodIn_r _ [408, 310, 49, 46, 241, 242, 243, 5, 244, 123, 245, 126, 127, 128, 129, 71, 72, 73, 74, 68, 69, 70, 138, 139, 140, 141, 130, 131, 132, 133, 134, 135, 136, 137, 311, 312, 313, 314, 246, 247, 248, 249, 212, 213, 214, 215, 331, 332, 333, 334, 530, 531, 532, 533, 534] (by decide +kernel) (by decide +kernel)
set_option maxRecDepth 20000 in
theorem gL_law_X3_reverseValues : GoodIn wsL_law (wsV RL 96 RX3 yX3_reverseValues wsX3_reverseValues) := goodIn_app (goodIn_of _ (by decide +kernel)) ggL_law_X3_reverseValues
set_option maxRecDepth 20000 in
theorem ggL_law_X2_subtreeSize : GoodIn wsL_law wsX2_subtreeSize := goodIn_r _ [412, 15, 79, 82, 83, 84, 14, 85, 26, 111, 112, 113, 114, 115, 116, 117, 118, 99, 100, 101, 102, 90, 91, 92, 93, 28, 94, 103, 104, 105, 106, 526, 527, 528, 529, 535, 536, 537, 538] (by decide +kernel) (by decide +kernel)
set_option maxRecDepth 20000 in
theorem gL_law_X2_subtreeSize : GoodIn wsL_law (wsV RL 97 RX2 yX2_subtreeSize wsX2_subtreeSize) := goodIn_app (goodIn_of _ (by decide +kernel)) ggL_law_X2_subtreeSize
set_option maxRecDepth 20000 in
theorem ggL_law_X3_subtreeSize : GoodIn wsL_law wsX3_subtreeSize := goodIn_r _ [416, 123, 126, 127, 128, 5, 129, 71, 72, 73, 74, 46, 68, 69, 70, 417, 418, 419, 420, 130, 131, 132, 133, 134, 135, 136, 137, 530, 531, 532, 533, 534] (by decide +kernel) (by decide +kernel)
set_option maxRecDepth 20000 in
theorem gL_law_X3_subtreeSize : GoodIn wsL_law (wsV RL 100 RX3 yX3_subtreeSize wsX3_subtreeSize) := goodIn_app (goodIn_of _ (by decide +kernel)) ggL_law_X3_subtreeSize
set_option maxRecDepth 20000 in
theorem ggL_law_X2_subtreeSum : GoodIn wsL_law wsX2_subtreeSum := goodIn_r _ [424, 15, 79, 82, 83, 84, 14, 85, 26, 59, 60, 61, 62, 425, 116, 117, 118, 99, 100, 101, 102, 90, 91, 92, 93, 28, 94, 103, 104, 105, 106, 323, 324, 325, 326, 29, 526, 527, 528, 529, 535, 536, 537, 538] (by decide +kernel) (by decide +kernel)
set_option maxRecDepth 20000 in
theorem gL_law_X2_subtreeSum : GoodIn wsL_law (wsV RL 101 RX2 yX2_subtreeSum wsX2_subtreeSum) := goodIn_app (goodIn_of _ (by decide +kernel)) ggL_law_X2_subtreeSum
set_option maxRecDepth 20000 in
theorem ggL_law_X3_subtreeSum : GoodIn wsL_law wsX3_subtreeSum := goodIn_r _ [429, 123, 126, 127, 128, 5, 129, 71, 72, 73, 74, 46, 68, 69, 70, 417, 418, 419, 420, 130, 131, 132, 133, 134, 135, 136, 137, 331, 332, 333, 334, 530, 531, 532, 533, 534] (by decide +kernel) (by decide +kernel)
set_option maxRecDepth 20000 in
theorem gL_law_X3_subtreeSum : GoodIn wsL_law (wsV RL 104 RX3 yX3_subtreeSum wsX3_subtreeSum) := goodIn_app (goodIn_of _ (by decide +kernel)) ggL_law_X3_subtreeSum
set_option maxRecDepth 20000 in
theorem ggL_law_X2_addInSubtree : GoodIn wsL_law wsX2_addInSubtree := goodIn_r _ [433, 15, 79, 58, 367, 82, 83, 84, 14, 85, 26, 368, 369, 2, 370, 371, 372, 59, 60, 61, 62, 425, 116, 117, 118, 99, 100, 101, 102, 90, 91, 92, 93, 28, 94, 103, 104, 105, 106, 323, 324, 325, 326, 29, 373, 374, 375, 376, 111, 112, 113, 114, 115, 526, 527, 528, 529, 535, 536, 537, 538] (by decide +kernel) (by decide +kernel)
set_option maxRecDepth 20000 in
theorem gL_law_X2_addInSubtree : GoodIn wsL_law (wsV RL 105 RX2 yX2_addInSubtree wsX2_addInSubtree) := goodIn_app (goodIn_of _ (by decide +kernel)) ggL_law_X2_addInSubtree
set_option maxRecDepth 20000 in
theorem ggL_law_X3_addInSubtree : GoodIn wsL_law wsX3_addInSubtree := goodIn_r _ [437, 123, 67, 381, 46, 126, 127, 128, 5, 129, 71, 72, 73, 74, 68, 69, 70, 382, 383, 384, 385, 386, 417, 418, 419, 420, 130, 131, 132, 133, 134, 135, 136, 137, 331, 332, 333, 334, 530, 531, 532, 533, 534] (by decide +kernel) (by decide +kernel)
set_option maxRecDepth 20000 in
theorem gL_law_X3_addInSubtree : GoodIn wsL_law (wsV RL 108 RX3 yX3_addInSubtree wsX3_addInSubtree) := goodIn_app (goodIn_of _ (by decide +kernel)) ggL_law_X3_addInSubtree
set_option maxRecDepth 20000 in
theorem ggL_law_X2_diameter : GoodIn wsL_law wsX2_diameter := goodIn_r _ [441, 15, 79, 82, 83, 84, 14, 85, 26, 442, 443, 444, 445, 446, 96, 97, 98, 99, 100, 101, 102, 90, 91, 92, 93, 28, 94, 103, 104, 105, 106, 447, 255, 256, 257, 258, 234, 235, 236, 254, 526, 527, 528, 529, 535, 536, 537, 538] (by decide +kernel) (by decide +kernel)
set_option maxRecDepth 20000 in
theorem gL_law_X2_diameter : GoodIn wsL_law (wsV RL 109 RX2 yX2_diameter wsX2_diameter) := goodIn_app (goodIn_of _ (by decide +kernel)) ggL_law_X2_diameter
set_option maxRecDepth 20000 in
theorem ggL_law_X3_diameter : GoodIn wsL_law wsX3_diameter := goodIn_r _ [451, 123, 126, 127, 128, 5, 129, 71, 72, 73, 74, 46, 68, 69, 70, 138, 139, 140, 141, 130, 131, 132, 133, 134, 135, 136, 137, 263, 264, 265, 266, 212, 213, 214, 215, 246, 247, 248, 249, 530, 531, 532, 533, 534] (by decide +kernel) (by decide +kernel)
set_option maxRecDepth 20000 in
theorem gL_law_X3_diameter : GoodIn wsL_law (wsV RL 112 RX3 yX3_diameter wsX3_diameter) := goodIn_app (goodIn_of _ (by decide +kernel)) ggL_law_X3_diameter
set_option maxRecDepth 20000 in
theorem ggL_law_X2_setValue : GoodIn wsL_law wsX2_setValue := goodIn_r _ [455, 15, 79, 58, 82, 83, 84, 14, 85, 26, 368, 369, 2, 370, 371, 372, 323, 324, 325, 326, 29, 94, 373, 374, 375, 376, 526, 527, 528, 529, 535, 536, 537, 538] (by decide +kernel) (by decide +kernel)
set_option maxRecDepth 20000 in
theorem gL_law_X2_setValue : GoodIn wsL_law (wsV RL 113 RX2 yX2_setValue wsX2_setValue) := goodIn_app (goodIn_of _ (by decide +kernel)) ggL_law_X2_setValue
set_option maxRecDepth 20000 in
theorem ggL_law_X3_setValue : GoodIn wsL_law wsX3_setValue := goodIn_r _ [459, 123, 67, 46, 126, 127, 128, 5, 129, 71, 72, 73, 74, 68, 69, 70, 382, 383, 384, 385, 386, 331, 332, 333, 334, 530, 531, 532, 533, 534] (by decide +kernel) (by decide +kernel)
set_option maxRecDepth 20000 in
theorem gL_law_X3_setValue : GoodIn wsL_law (wsV RL 116 RX3 yX3_setValue wsX3_setValue) := goodIn_app (goodIn_of _ (by decide +kernel)) ggL_law_X3_setValue
set_option maxRecDepth 20000 in
theorem ggL_law_X2_value : GoodIn wsL_law wsX2_value := goodIn_r _ [463, 15, 79, 82, 83, 84, 14, 85, 26, 323, 324, 325, 326, 29, 94, 526, 527, 528, 529, 535, 536, 537, 538] (by decide +kernel) (by decide +kernel)
set_option maxRecDepth 20000 in
theorem gL_law_X2_value : GoodIn wsL_law (wsV RL 117 RX2 yX2_value wsX2_value) := goodIn_app (goodIn_of _ (by decide +kernel)) ggL_law_X2_value
set_option maxRecDepth 20000 in
theorem ggL_law_X3_value : GoodIn wsL_law wsX3_value := goodIn_r _ [467, 123, 126, 127, 128, 5, 129, 71, 72, 73, 74, 46, 68, 69, 70, 331, 332, 333, 334, 530, 531, 532, 533, 534] (by decide +kernel) (by decide +kernel)
set_option maxRecDepth 20000 in
theorem gL_law_X3_value : GoodIn wsL_law (wsV RL 120 RX3 yX3_value wsX3_value) := goodIn_app (goodIn_of _ (by decide +kernel)) ggL_law_X3_value
set_option maxRecDepth 20000 in
theorem ggL_law_X2_setMark : GoodIn wsL_law wsX2_setMark := goodIn_r _ [471, 15, 79, 82, 83, 84, 14, 85, 26, 472, 473, 474, 475, 31, 94, 476, 477, 478, 479, 526, 527, 528, 529, 535, 536, 537, 538] (by decide +kernel) (by decide +kernel)
set_option maxRecDepth 20000 in
theorem gL_law_X2_setMark : GoodIn wsL_law (wsV RL 121 RX2 yX2_setMark wsX2_setMark) := goodIn_app (goodIn_of _ (by decide +kernel)) ggL_law_X2_setMark
set_option maxRecDepth 20000 in
theorem ggL_law_X3_setMark : GoodIn wsL_law wsX3_setMark := goodIn_r _ [483, 123, 46, 126, 127, 128, 5, 129, 71, 72, 73, 74, 68, 69, 70, 530, 531, 532, 533, 534] (by decide +kernel) (by decide +kernel)
set_option maxRecDepth 20000 in
theorem gL_law_X3_setMark : GoodIn wsL_law (wsV RL 125 RX3 yX3_setMark wsX3_setMark) := goodIn_app (goodIn_of _ (by decide +kernel)) ggL_law_X3_setMark
set_option maxRecDepth 20000 in
theorem ggL_law_X2_nearestMarked : GoodIn wsL_law wsX2_nearestMarked := goodIn_r _ [487, 15, 79, 146, 82, 83, 84, 14, 85, 26, 488, 489, 490, 491, 446, 96, 97, 98, 99, 100, 101, 102, 90, 91, 92, 93, 28, 94, 103, 104, 105, 106, 492, 473, 474, 475, 31, 447, 255, 256, 257, 258, 234, 235, 236, 526, 527, 528, 529, 535, 536, 537, 538] (by decide +kernel) (by decide +kernel)
set_option maxRecDepth 20000 in
theorem gL_law_X2_nearestMarked : GoodIn wsL_law (wsV RL 126 RX2 yX2_nearestMarked wsX2_nearestMarked) := goodIn_app (goodIn_of _ (by decide +kernel)) ggL_law_X2_nearestMarked
set_option maxRecDepth 20000 in
theorem ggL_law_X3_nearestMarked : GoodIn wsL_law wsX3_nearestMarked := goodIn_r _ [496, 123, 152, 46, 126, 127, 128, 5, 129, 71, 72, 73, 74, 68, 69, 70, 138, 139, 140, 141, 130, 131, 132, 133, 134, 135, 136, 137, 263, 264, 265, 266, 212, 213, 214, 215, 246, 247, 248, 249, 530, 531, 532, 533, 534] (by decide +kernel) (by decide +kernel)
set_option maxRecDepth 20000 in
theorem gL_law_X3_nearestMarked : GoodIn wsL_law (wsV RL 129 RX3 yX3_nearestMarked wsX3_nearestMarked) := goodIn_app (goodIn_of _ (by decide +kernel)) ggL_law_X3_nearestMarked
set_option maxRecDepth 20000 in
theorem ggL_law_X2_save : GoodIn wsL_law wsX2_save := goodIn_r _ [500, 58, 15, 501, 502, 2, 503, 504, 505, 506, 507, 16, 17, 508, 509, 510, 14, 511, 26, 28, 29, 31, 59, 60, 61, 62, 526, 527, 528, 529, 535, 536, 537, 538] (by decide +kernel) (by decide +kernel)
set_option maxRecDepth 20000 in
theorem gL_law_X2_save : GoodIn wsL_law (wsV RL 130 RX2 yX2_save wsX2_save) := goodIn_app (goodIn_of _ (by decide +kernel)) ggL_law_X2_save
set_option maxRecDepth 20000 in
theorem ggL_law_X3_save : GoodIn wsL_law wsX3_save := goodIn_r _ [515, 67, 47, 46, 48, 68, 69, 5, 70, 71, 72, 73, 74, 530, 531, 532, 533, 534] (by decide +kernel) (by decide +kernel)
set_option maxRecDepth 20000 in
theorem gL_law_X3_save : GoodIn wsL_law (wsV RL 133 RX3 yX3_save wsX3_save) := goodIn_app (goodIn_of _ (by decide +kernel)) ggL_law_X3_save
set_option maxRecDepth 20000 in
theorem ggL_law_X2_restore : GoodIn wsL_law wsX2_restore := goodIn_r _ [519, 58, 520, 15, 501, 502, 2, 503, 504, 505, 506, 507, 16, 17, 59, 60, 61, 14, 62, 26, 508, 509, 510, 511, 28, 29, 31, 526, 527, 528, 529, 535, 536, 537, 538] (by decide +kernel) (by decide +kernel)
set_option maxRecDepth 20000 in
theorem gL_law_X2_restore : GoodIn wsL_law (wsV RL 134 RX2 yX2_restore wsX2_restore) := goodIn_app (goodIn_of _ (by decide +kernel)) ggL_law_X2_restore
set_option maxRecDepth 20000 in
theorem ggL_law_X3_restore : GoodIn wsL_law wsX3_restore := goodIn_r _ [524, 67, 48, 525, 46, 47, 68, 69, 5, 70, 71, 72, 73, 74, 530, 531, 532, 533, 534] (by decide +kernel) (by decide +kernel)
set_option maxRecDepth 20000 in
theorem gL_law_X3_restore : GoodIn wsL_law (wsV RL 137 RX3 yX3_restore wsX3_restore) := goodIn_app (goodIn_of _ (by decide +kernel)) ggL_law_X3_restore
end
section
theorem dL_law_0 : decode cL_law 0 = .ok (.new 7, 3) := by decide +kernel
theorem dL_law_3 : decode cL_law 3 = .ok (.dup, 1) := by decide +kernel
theorem dL_law_4 : decode cL_law 4 = .ok (.invokespecial 9, 3) := by decide +kernel
theorem dL_law_7 : decode cL_law 7 = .ok (.astore_n 1, 1) := by decide +kernel
theorem dL_law_8 : decode cL_law 8 = .ok (.new 10, 3) := by decide +kernel
theorem dL_law_11 : decode cL_law 11 = .ok (.dup, 1) := by decide +kernel
theorem dL_law_12 : decode cL_law 12 = .ok (.invokespecial 12, 3) := by decide +kernel
theorem dL_law_15 : decode cL_law 15 = .ok (.astore_n 2, 1) := by decide +kernel
theorem dL_law_16 : decode cL_law 16 = .ok (.iconst 0, 1) := by decide +kernel
theorem dL_law_17 : decode cL_law 17 = .ok (.istore_n 3, 1) := by decide +kernel
theorem dL_law_18 : decode cL_law 18 = .ok (.iload_n 3, 1) := by decide +kernel
theorem dL_law_19 : decode cL_law 19 = .ok (.aload_n 0, 1) := by decide +kernel
theorem dL_law_20 : decode cL_law 20 = .ok (.arraylength, 1) := by decide +kernel
theorem dL_law_21 : decode cL_law 21 = .ok (.iconst 4, 1) := by decide +kernel
theorem dL_law_22 : decode cL_law 22 = .ok (.isub, 1) := by decide +kernel
theorem dL_law_23 : decode cL_law 23 = .ok (.if_icmp .gt 1027, 3) := by decide +kernel
theorem dL_law_26 : decode cL_law 26 = .ok (.aload_n 0, 1) := by decide +kernel
theorem dL_law_27 : decode cL_law 27 = .ok (.iload_n 3, 1) := by decide +kernel
theorem dL_law_28 : decode cL_law 28 = .ok (.iaload, 1) := by decide +kernel
theorem dL_law_29 : decode cL_law 29 = .ok (.bipush 31, 2) := by decide +kernel
theorem dL_law_31 : decode cL_law 31 = .ok (.iand, 1) := by decide +kernel
theorem dL_law_32 : decode cL_law 32 = .ok (.tableswitch 1012 0 29 #[136, 159, 192, 215, 238, 251, 264, 287, 310, 333, 366, 399, 432, 475, 508, 541, 574, 617, 660, 703, 736, 759, 782, 815, 838, 871, 894, 943, 966, 989], 136) := by decide +kernel
theorem dL_law_168 : decode cL_law 168 = .ok (.aload_n 1, 1) := by decide +kernel
theorem dL_law_169 : decode cL_law 169 = .ok (.aload_n 0, 1) := by decide +kernel
theorem dL_law_170 : decode cL_law 170 = .ok (.iload_n 3, 1) := by decide +kernel
theorem dL_law_171 : decode cL_law 171 = .ok (.iconst 1, 1) := by decide +kernel
theorem dL_law_172 : decode cL_law 172 = .ok (.iadd, 1) := by decide +kernel
theorem dL_law_173 : decode cL_law 173 = .ok (.iaload, 1) := by decide +kernel
theorem dL_law_174 : decode cL_law 174 = .ok (.invokevirtual 13, 3) := by decide +kernel
theorem dL_law_177 : decode cL_law 177 = .ok (.aload_n 2, 1) := by decide +kernel
theorem dL_law_178 : decode cL_law 178 = .ok (.aload_n 0, 1) := by decide +kernel
theorem dL_law_179 : decode cL_law 179 = .ok (.iload_n 3, 1) := by decide +kernel
theorem dL_law_180 : decode cL_law 180 = .ok (.iconst 1, 1) := by decide +kernel
theorem dL_law_181 : decode cL_law 181 = .ok (.iadd, 1) := by decide +kernel
theorem dL_law_182 : decode cL_law 182 = .ok (.iaload, 1) := by decide +kernel
theorem dL_law_183 : decode cL_law 183 = .ok (.invokevirtual 17, 3) := by decide +kernel
theorem dL_law_186 : decode cL_law 186 = .ok (.if_icmp .eq 858, 3) := by decide +kernel
theorem dL_law_189 : decode cL_law 189 = .ok (.iconst 0, 1) := by decide +kernel
theorem dL_law_190 : decode cL_law 190 = .ok (.ireturn, 1) := by decide +kernel
theorem dL_law_191 : decode cL_law 191 = .ok (.aload_n 1, 1) := by decide +kernel
theorem dL_law_192 : decode cL_law 192 = .ok (.aload_n 0, 1) := by decide +kernel
theorem dL_law_193 : decode cL_law 193 = .ok (.iload_n 3, 1) := by decide +kernel
theorem dL_law_194 : decode cL_law 194 = .ok (.iconst 1, 1) := by decide +kernel
theorem dL_law_195 : decode cL_law 195 = .ok (.iadd, 1) := by decide +kernel
theorem dL_law_196 : decode cL_law 196 = .ok (.iaload, 1) := by decide +kernel
theorem dL_law_197 : decode cL_law 197 = .ok (.aload_n 0, 1) := by decide +kernel
theorem dL_law_198 : decode cL_law 198 = .ok (.iload_n 3, 1) := by decide +kernel
theorem dL_law_199 : decode cL_law 199 = .ok (.iconst 2, 1) := by decide +kernel
theorem dL_law_200 : decode cL_law 200 = .ok (.iadd, 1) := by decide +kernel
theorem dL_law_201 : decode cL_law 201 = .ok (.iaload, 1) := by decide +kernel
theorem dL_law_202 : decode cL_law 202 = .ok (.invokevirtual 18, 3) := by decide +kernel
theorem dL_law_205 : decode cL_law 205 = .ok (.aload_n 2, 1) := by decide +kernel
theorem dL_law_206 : decode cL_law 206 = .ok (.aload_n 0, 1) := by decide +kernel
theorem dL_law_207 : decode cL_law 207 = .ok (.iload_n 3, 1) := by decide +kernel
theorem dL_law_208 : decode cL_law 208 = .ok (.iconst 1, 1) := by decide +kernel
theorem dL_law_209 : decode cL_law 209 = .ok (.iadd, 1) := by decide +kernel
theorem dL_law_210 : decode cL_law 210 = .ok (.iaload, 1) := by decide +kernel
theorem dL_law_211 : decode cL_law 211 = .ok (.aload_n 0, 1) := by decide +kernel
theorem dL_law_212 : decode cL_law 212 = .ok (.iload_n 3, 1) := by decide +kernel
theorem dL_law_213 : decode cL_law 213 = .ok (.iconst 2, 1) := by decide +kernel
theorem dL_law_214 : decode cL_law 214 = .ok (.iadd, 1) := by decide +kernel
theorem dL_law_215 : decode cL_law 215 = .ok (.iaload, 1) := by decide +kernel
theorem dL_law_216 : decode cL_law 216 = .ok (.invokevirtual 22, 3) := by decide +kernel
theorem dL_law_219 : decode cL_law 219 = .ok (.if_icmp .eq 825, 3) := by decide +kernel
theorem dL_law_222 : decode cL_law 222 = .ok (.iconst 0, 1) := by decide +kernel
theorem dL_law_223 : decode cL_law 223 = .ok (.ireturn, 1) := by decide +kernel
theorem dL_law_224 : decode cL_law 224 = .ok (.aload_n 1, 1) := by decide +kernel
theorem dL_law_225 : decode cL_law 225 = .ok (.aload_n 0, 1) := by decide +kernel
theorem dL_law_226 : decode cL_law 226 = .ok (.iload_n 3, 1) := by decide +kernel
theorem dL_law_227 : decode cL_law 227 = .ok (.iconst 1, 1) := by decide +kernel
theorem dL_law_228 : decode cL_law 228 = .ok (.iadd, 1) := by decide +kernel
theorem dL_law_229 : decode cL_law 229 = .ok (.iaload, 1) := by decide +kernel
theorem dL_law_230 : decode cL_law 230 = .ok (.invokevirtual 23, 3) := by decide +kernel
theorem dL_law_233 : decode cL_law 233 = .ok (.aload_n 2, 1) := by decide +kernel
theorem dL_law_234 : decode cL_law 234 = .ok (.aload_n 0, 1) := by decide +kernel
theorem dL_law_235 : decode cL_law 235 = .ok (.iload_n 3, 1) := by decide +kernel
theorem dL_law_236 : decode cL_law 236 = .ok (.iconst 1, 1) := by decide +kernel
theorem dL_law_237 : decode cL_law 237 = .ok (.iadd, 1) := by decide +kernel
theorem dL_law_238 : decode cL_law 238 = .ok (.iaload, 1) := by decide +kernel
theorem dL_law_239 : decode cL_law 239 = .ok (.invokevirtual 26, 3) := by decide +kernel
theorem dL_law_242 : decode cL_law 242 = .ok (.if_icmp .eq 802, 3) := by decide +kernel
theorem dL_law_245 : decode cL_law 245 = .ok (.iconst 0, 1) := by decide +kernel
theorem dL_law_246 : decode cL_law 246 = .ok (.ireturn, 1) := by decide +kernel
theorem dL_law_247 : decode cL_law 247 = .ok (.aload_n 1, 1) := by decide +kernel
theorem dL_law_248 : decode cL_law 248 = .ok (.aload_n 0, 1) := by decide +kernel
theorem dL_law_249 : decode cL_law 249 = .ok (.iload_n 3, 1) := by decide +kernel
theorem dL_law_250 : decode cL_law 250 = .ok (.iconst 1, 1) := by decide +kernel
theorem dL_law_251 : decode cL_law 251 = .ok (.iadd, 1) := by decide +kernel
theorem dL_law_252 : decode cL_law 252 = .ok (.iaload, 1) := by decide +kernel
theorem dL_law_253 : decode cL_law 253 = .ok (.invokevirtual 27, 3) := by decide +kernel
theorem dL_law_256 : decode cL_law 256 = .ok (.aload_n 2, 1) := by decide +kernel
theorem dL_law_257 : decode cL_law 257 = .ok (.aload_n 0, 1) := by decide +kernel
theorem dL_law_258 : decode cL_law 258 = .ok (.iload_n 3, 1) := by decide +kernel
theorem dL_law_259 : decode cL_law 259 = .ok (.iconst 1, 1) := by decide +kernel
theorem dL_law_260 : decode cL_law 260 = .ok (.iadd, 1) := by decide +kernel
theorem dL_law_261 : decode cL_law 261 = .ok (.iaload, 1) := by decide +kernel
theorem dL_law_262 : decode cL_law 262 = .ok (.invokevirtual 30, 3) := by decide +kernel
theorem dL_law_265 : decode cL_law 265 = .ok (.if_icmp .eq 779, 3) := by decide +kernel
theorem dL_law_268 : decode cL_law 268 = .ok (.iconst 0, 1) := by decide +kernel
theorem dL_law_269 : decode cL_law 269 = .ok (.ireturn, 1) := by decide +kernel
theorem dL_law_270 : decode cL_law 270 = .ok (.aload_n 1, 1) := by decide +kernel
theorem dL_law_271 : decode cL_law 271 = .ok (.invokevirtual 31, 3) := by decide +kernel
theorem dL_law_274 : decode cL_law 274 = .ok (.aload_n 2, 1) := by decide +kernel
theorem dL_law_275 : decode cL_law 275 = .ok (.invokevirtual 35, 3) := by decide +kernel
theorem dL_law_278 : decode cL_law 278 = .ok (.if_icmp .eq 766, 3) := by decide +kernel
theorem dL_law_281 : decode cL_law 281 = .ok (.iconst 0, 1) := by decide +kernel
theorem dL_law_282 : decode cL_law 282 = .ok (.ireturn, 1) := by decide +kernel
theorem dL_law_283 : decode cL_law 283 = .ok (.aload_n 1, 1) := by decide +kernel
theorem dL_law_284 : decode cL_law 284 = .ok (.invokevirtual 36, 3) := by decide +kernel
theorem dL_law_287 : decode cL_law 287 = .ok (.aload_n 2, 1) := by decide +kernel
theorem dL_law_288 : decode cL_law 288 = .ok (.invokevirtual 39, 3) := by decide +kernel
theorem dL_law_291 : decode cL_law 291 = .ok (.if_icmp .eq 753, 3) := by decide +kernel
theorem dL_law_294 : decode cL_law 294 = .ok (.iconst 0, 1) := by decide +kernel
theorem dL_law_295 : decode cL_law 295 = .ok (.ireturn, 1) := by decide +kernel
theorem dL_law_296 : decode cL_law 296 = .ok (.aload_n 1, 1) := by decide +kernel
theorem dL_law_297 : decode cL_law 297 = .ok (.aload_n 0, 1) := by decide +kernel
theorem dL_law_298 : decode cL_law 298 = .ok (.iload_n 3, 1) := by decide +kernel
theorem dL_law_299 : decode cL_law 299 = .ok (.iconst 1, 1) := by decide +kernel
theorem dL_law_300 : decode cL_law 300 = .ok (.iadd, 1) := by decide +kernel
theorem dL_law_301 : decode cL_law 301 = .ok (.iaload, 1) := by decide +kernel
theorem dL_law_302 : decode cL_law 302 = .ok (.invokevirtual 40, 3) := by decide +kernel
theorem dL_law_305 : decode cL_law 305 = .ok (.aload_n 2, 1) := by decide +kernel
theorem dL_law_306 : decode cL_law 306 = .ok (.aload_n 0, 1) := by decide +kernel
theorem dL_law_307 : decode cL_law 307 = .ok (.iload_n 3, 1) := by decide +kernel
theorem dL_law_308 : decode cL_law 308 = .ok (.iconst 1, 1) := by decide +kernel
theorem dL_law_309 : decode cL_law 309 = .ok (.iadd, 1) := by decide +kernel
theorem dL_law_310 : decode cL_law 310 = .ok (.iaload, 1) := by decide +kernel
theorem dL_law_311 : decode cL_law 311 = .ok (.invokevirtual 43, 3) := by decide +kernel
theorem dL_law_314 : decode cL_law 314 = .ok (.if_icmp .eq 730, 3) := by decide +kernel
theorem dL_law_317 : decode cL_law 317 = .ok (.iconst 0, 1) := by decide +kernel
theorem dL_law_318 : decode cL_law 318 = .ok (.ireturn, 1) := by decide +kernel
theorem dL_law_319 : decode cL_law 319 = .ok (.aload_n 1, 1) := by decide +kernel
theorem dL_law_320 : decode cL_law 320 = .ok (.aload_n 0, 1) := by decide +kernel
theorem dL_law_321 : decode cL_law 321 = .ok (.iload_n 3, 1) := by decide +kernel
theorem dL_law_322 : decode cL_law 322 = .ok (.iconst 1, 1) := by decide +kernel
theorem dL_law_323 : decode cL_law 323 = .ok (.iadd, 1) := by decide +kernel
theorem dL_law_324 : decode cL_law 324 = .ok (.iaload, 1) := by decide +kernel
theorem dL_law_325 : decode cL_law 325 = .ok (.invokevirtual 44, 3) := by decide +kernel
theorem dL_law_328 : decode cL_law 328 = .ok (.aload_n 2, 1) := by decide +kernel
theorem dL_law_329 : decode cL_law 329 = .ok (.aload_n 0, 1) := by decide +kernel
theorem dL_law_330 : decode cL_law 330 = .ok (.iload_n 3, 1) := by decide +kernel
theorem dL_law_331 : decode cL_law 331 = .ok (.iconst 1, 1) := by decide +kernel
theorem dL_law_332 : decode cL_law 332 = .ok (.iadd, 1) := by decide +kernel
theorem dL_law_333 : decode cL_law 333 = .ok (.iaload, 1) := by decide +kernel
theorem dL_law_334 : decode cL_law 334 = .ok (.invokevirtual 47, 3) := by decide +kernel
theorem dL_law_337 : decode cL_law 337 = .ok (.if_icmp .eq 707, 3) := by decide +kernel
theorem dL_law_340 : decode cL_law 340 = .ok (.iconst 0, 1) := by decide +kernel
theorem dL_law_341 : decode cL_law 341 = .ok (.ireturn, 1) := by decide +kernel
theorem dL_law_342 : decode cL_law 342 = .ok (.aload_n 1, 1) := by decide +kernel
theorem dL_law_343 : decode cL_law 343 = .ok (.aload_n 0, 1) := by decide +kernel
theorem dL_law_344 : decode cL_law 344 = .ok (.iload_n 3, 1) := by decide +kernel
theorem dL_law_345 : decode cL_law 345 = .ok (.iconst 1, 1) := by decide +kernel
theorem dL_law_346 : decode cL_law 346 = .ok (.iadd, 1) := by decide +kernel
theorem dL_law_347 : decode cL_law 347 = .ok (.iaload, 1) := by decide +kernel
theorem dL_law_348 : decode cL_law 348 = .ok (.invokevirtual 48, 3) := by decide +kernel
theorem dL_law_351 : decode cL_law 351 = .ok (.aload_n 2, 1) := by decide +kernel
theorem dL_law_352 : decode cL_law 352 = .ok (.aload_n 0, 1) := by decide +kernel
theorem dL_law_353 : decode cL_law 353 = .ok (.iload_n 3, 1) := by decide +kernel
theorem dL_law_354 : decode cL_law 354 = .ok (.iconst 1, 1) := by decide +kernel
theorem dL_law_355 : decode cL_law 355 = .ok (.iadd, 1) := by decide +kernel
theorem dL_law_356 : decode cL_law 356 = .ok (.iaload, 1) := by decide +kernel
theorem dL_law_357 : decode cL_law 357 = .ok (.invokevirtual 51, 3) := by decide +kernel
theorem dL_law_360 : decode cL_law 360 = .ok (.if_icmp .eq 684, 3) := by decide +kernel
theorem dL_law_363 : decode cL_law 363 = .ok (.iconst 0, 1) := by decide +kernel
theorem dL_law_364 : decode cL_law 364 = .ok (.ireturn, 1) := by decide +kernel
theorem dL_law_365 : decode cL_law 365 = .ok (.aload_n 1, 1) := by decide +kernel
theorem dL_law_366 : decode cL_law 366 = .ok (.aload_n 0, 1) := by decide +kernel
theorem dL_law_367 : decode cL_law 367 = .ok (.iload_n 3, 1) := by decide +kernel
theorem dL_law_368 : decode cL_law 368 = .ok (.iconst 1, 1) := by decide +kernel
theorem dL_law_369 : decode cL_law 369 = .ok (.iadd, 1) := by decide +kernel
theorem dL_law_370 : decode cL_law 370 = .ok (.iaload, 1) := by decide +kernel
theorem dL_law_371 : decode cL_law 371 = .ok (.aload_n 0, 1) := by decide +kernel
theorem dL_law_372 : decode cL_law 372 = .ok (.iload_n 3, 1) := by decide +kernel
theorem dL_law_373 : decode cL_law 373 = .ok (.iconst 2, 1) := by decide +kernel
theorem dL_law_374 : decode cL_law 374 = .ok (.iadd, 1) := by decide +kernel
theorem dL_law_375 : decode cL_law 375 = .ok (.iaload, 1) := by decide +kernel
theorem dL_law_376 : decode cL_law 376 = .ok (.invokevirtual 52, 3) := by decide +kernel
theorem dL_law_379 : decode cL_law 379 = .ok (.aload_n 2, 1) := by decide +kernel
theorem dL_law_380 : decode cL_law 380 = .ok (.aload_n 0, 1) := by decide +kernel
theorem dL_law_381 : decode cL_law 381 = .ok (.iload_n 3, 1) := by decide +kernel
theorem dL_law_382 : decode cL_law 382 = .ok (.iconst 1, 1) := by decide +kernel
theorem dL_law_383 : decode cL_law 383 = .ok (.iadd, 1) := by decide +kernel
theorem dL_law_384 : decode cL_law 384 = .ok (.iaload, 1) := by decide +kernel
theorem dL_law_385 : decode cL_law 385 = .ok (.aload_n 0, 1) := by decide +kernel
theorem dL_law_386 : decode cL_law 386 = .ok (.iload_n 3, 1) := by decide +kernel
theorem dL_law_387 : decode cL_law 387 = .ok (.iconst 2, 1) := by decide +kernel
theorem dL_law_388 : decode cL_law 388 = .ok (.iadd, 1) := by decide +kernel
theorem dL_law_389 : decode cL_law 389 = .ok (.iaload, 1) := by decide +kernel
theorem dL_law_390 : decode cL_law 390 = .ok (.invokevirtual 55, 3) := by decide +kernel
theorem dL_law_393 : decode cL_law 393 = .ok (.if_icmp .eq 651, 3) := by decide +kernel
theorem dL_law_396 : decode cL_law 396 = .ok (.iconst 0, 1) := by decide +kernel
theorem dL_law_397 : decode cL_law 397 = .ok (.ireturn, 1) := by decide +kernel
theorem dL_law_398 : decode cL_law 398 = .ok (.aload_n 1, 1) := by decide +kernel
theorem dL_law_399 : decode cL_law 399 = .ok (.aload_n 0, 1) := by decide +kernel
theorem dL_law_400 : decode cL_law 400 = .ok (.iload_n 3, 1) := by decide +kernel
theorem dL_law_401 : decode cL_law 401 = .ok (.iconst 1, 1) := by decide +kernel
theorem dL_law_402 : decode cL_law 402 = .ok (.iadd, 1) := by decide +kernel
theorem dL_law_403 : decode cL_law 403 = .ok (.iaload, 1) := by decide +kernel
theorem dL_law_404 : decode cL_law 404 = .ok (.aload_n 0, 1) := by decide +kernel
theorem dL_law_405 : decode cL_law 405 = .ok (.iload_n 3, 1) := by decide +kernel
theorem dL_law_406 : decode cL_law 406 = .ok (.iconst 2, 1) := by decide +kernel
theorem dL_law_407 : decode cL_law 407 = .ok (.iadd, 1) := by decide +kernel
theorem dL_law_408 : decode cL_law 408 = .ok (.iaload, 1) := by decide +kernel
theorem dL_law_409 : decode cL_law 409 = .ok (.invokevirtual 56, 3) := by decide +kernel
theorem dL_law_412 : decode cL_law 412 = .ok (.aload_n 2, 1) := by decide +kernel
theorem dL_law_413 : decode cL_law 413 = .ok (.aload_n 0, 1) := by decide +kernel
theorem dL_law_414 : decode cL_law 414 = .ok (.iload_n 3, 1) := by decide +kernel
theorem dL_law_415 : decode cL_law 415 = .ok (.iconst 1, 1) := by decide +kernel
theorem dL_law_416 : decode cL_law 416 = .ok (.iadd, 1) := by decide +kernel
theorem dL_law_417 : decode cL_law 417 = .ok (.iaload, 1) := by decide +kernel
theorem dL_law_418 : decode cL_law 418 = .ok (.aload_n 0, 1) := by decide +kernel
theorem dL_law_419 : decode cL_law 419 = .ok (.iload_n 3, 1) := by decide +kernel
theorem dL_law_420 : decode cL_law 420 = .ok (.iconst 2, 1) := by decide +kernel
theorem dL_law_421 : decode cL_law 421 = .ok (.iadd, 1) := by decide +kernel
theorem dL_law_422 : decode cL_law 422 = .ok (.iaload, 1) := by decide +kernel
theorem dL_law_423 : decode cL_law 423 = .ok (.invokevirtual 59, 3) := by decide +kernel
theorem dL_law_426 : decode cL_law 426 = .ok (.if_icmp .eq 618, 3) := by decide +kernel
theorem dL_law_429 : decode cL_law 429 = .ok (.iconst 0, 1) := by decide +kernel
theorem dL_law_430 : decode cL_law 430 = .ok (.ireturn, 1) := by decide +kernel
theorem dL_law_431 : decode cL_law 431 = .ok (.aload_n 1, 1) := by decide +kernel
theorem dL_law_432 : decode cL_law 432 = .ok (.aload_n 0, 1) := by decide +kernel
theorem dL_law_433 : decode cL_law 433 = .ok (.iload_n 3, 1) := by decide +kernel
theorem dL_law_434 : decode cL_law 434 = .ok (.iconst 1, 1) := by decide +kernel
theorem dL_law_435 : decode cL_law 435 = .ok (.iadd, 1) := by decide +kernel
theorem dL_law_436 : decode cL_law 436 = .ok (.iaload, 1) := by decide +kernel
theorem dL_law_437 : decode cL_law 437 = .ok (.aload_n 0, 1) := by decide +kernel
theorem dL_law_438 : decode cL_law 438 = .ok (.iload_n 3, 1) := by decide +kernel
theorem dL_law_439 : decode cL_law 439 = .ok (.iconst 2, 1) := by decide +kernel
theorem dL_law_440 : decode cL_law 440 = .ok (.iadd, 1) := by decide +kernel
theorem dL_law_441 : decode cL_law 441 = .ok (.iaload, 1) := by decide +kernel
theorem dL_law_442 : decode cL_law 442 = .ok (.invokevirtual 60, 3) := by decide +kernel
theorem dL_law_445 : decode cL_law 445 = .ok (.aload_n 2, 1) := by decide +kernel
theorem dL_law_446 : decode cL_law 446 = .ok (.aload_n 0, 1) := by decide +kernel
theorem dL_law_447 : decode cL_law 447 = .ok (.iload_n 3, 1) := by decide +kernel
theorem dL_law_448 : decode cL_law 448 = .ok (.iconst 1, 1) := by decide +kernel
theorem dL_law_449 : decode cL_law 449 = .ok (.iadd, 1) := by decide +kernel
theorem dL_law_450 : decode cL_law 450 = .ok (.iaload, 1) := by decide +kernel
theorem dL_law_451 : decode cL_law 451 = .ok (.aload_n 0, 1) := by decide +kernel
end
section
theorem dL_law_452 : decode cL_law 452 = .ok (.iload_n 3, 1) := by decide +kernel
theorem dL_law_453 : decode cL_law 453 = .ok (.iconst 2, 1) := by decide +kernel
theorem dL_law_454 : decode cL_law 454 = .ok (.iadd, 1) := by decide +kernel
theorem dL_law_455 : decode cL_law 455 = .ok (.iaload, 1) := by decide +kernel
theorem dL_law_456 : decode cL_law 456 = .ok (.invokevirtual 63, 3) := by decide +kernel
theorem dL_law_459 : decode cL_law 459 = .ok (.if_icmp .eq 585, 3) := by decide +kernel
theorem dL_law_462 : decode cL_law 462 = .ok (.iconst 0, 1) := by decide +kernel
theorem dL_law_463 : decode cL_law 463 = .ok (.ireturn, 1) := by decide +kernel
theorem dL_law_464 : decode cL_law 464 = .ok (.aload_n 1, 1) := by decide +kernel
theorem dL_law_465 : decode cL_law 465 = .ok (.aload_n 0, 1) := by decide +kernel
theorem dL_law_466 : decode cL_law 466 = .ok (.iload_n 3, 1) := by decide +kernel
theorem dL_law_467 : decode cL_law 467 = .ok (.iconst 1, 1) := by decide +kernel
theorem dL_law_468 : decode cL_law 468 = .ok (.iadd, 1) := by decide +kernel
theorem dL_law_469 : decode cL_law 469 = .ok (.iaload, 1) := by decide +kernel
theorem dL_law_470 : decode cL_law 470 = .ok (.aload_n 0, 1) := by decide +kernel
theorem dL_law_471 : decode cL_law 471 = .ok (.iload_n 3, 1) := by decide +kernel
theorem dL_law_472 : decode cL_law 472 = .ok (.iconst 2, 1) := by decide +kernel
theorem dL_law_473 : decode cL_law 473 = .ok (.iadd, 1) := by decide +kernel
theorem dL_law_474 : decode cL_law 474 = .ok (.iaload, 1) := by decide +kernel
theorem dL_law_475 : decode cL_law 475 = .ok (.aload_n 0, 1) := by decide +kernel
theorem dL_law_476 : decode cL_law 476 = .ok (.iload_n 3, 1) := by decide +kernel
theorem dL_law_477 : decode cL_law 477 = .ok (.iconst 3, 1) := by decide +kernel
theorem dL_law_478 : decode cL_law 478 = .ok (.iadd, 1) := by decide +kernel
theorem dL_law_479 : decode cL_law 479 = .ok (.iaload, 1) := by decide +kernel
theorem dL_law_480 : decode cL_law 480 = .ok (.invokevirtual 64, 3) := by decide +kernel
theorem dL_law_483 : decode cL_law 483 = .ok (.aload_n 2, 1) := by decide +kernel
theorem dL_law_484 : decode cL_law 484 = .ok (.aload_n 0, 1) := by decide +kernel
theorem dL_law_485 : decode cL_law 485 = .ok (.iload_n 3, 1) := by decide +kernel
theorem dL_law_486 : decode cL_law 486 = .ok (.iconst 1, 1) := by decide +kernel
theorem dL_law_487 : decode cL_law 487 = .ok (.iadd, 1) := by decide +kernel
theorem dL_law_488 : decode cL_law 488 = .ok (.iaload, 1) := by decide +kernel
theorem dL_law_489 : decode cL_law 489 = .ok (.aload_n 0, 1) := by decide +kernel
theorem dL_law_490 : decode cL_law 490 = .ok (.iload_n 3, 1) := by decide +kernel
theorem dL_law_491 : decode cL_law 491 = .ok (.iconst 2, 1) := by decide +kernel
theorem dL_law_492 : decode cL_law 492 = .ok (.iadd, 1) := by decide +kernel
theorem dL_law_493 : decode cL_law 493 = .ok (.iaload, 1) := by decide +kernel
theorem dL_law_494 : decode cL_law 494 = .ok (.aload_n 0, 1) := by decide +kernel
theorem dL_law_495 : decode cL_law 495 = .ok (.iload_n 3, 1) := by decide +kernel
theorem dL_law_496 : decode cL_law 496 = .ok (.iconst 3, 1) := by decide +kernel
theorem dL_law_497 : decode cL_law 497 = .ok (.iadd, 1) := by decide +kernel
theorem dL_law_498 : decode cL_law 498 = .ok (.iaload, 1) := by decide +kernel
theorem dL_law_499 : decode cL_law 499 = .ok (.invokevirtual 68, 3) := by decide +kernel
theorem dL_law_502 : decode cL_law 502 = .ok (.if_icmp .eq 542, 3) := by decide +kernel
theorem dL_law_505 : decode cL_law 505 = .ok (.iconst 0, 1) := by decide +kernel
theorem dL_law_506 : decode cL_law 506 = .ok (.ireturn, 1) := by decide +kernel
theorem dL_law_507 : decode cL_law 507 = .ok (.aload_n 1, 1) := by decide +kernel
theorem dL_law_508 : decode cL_law 508 = .ok (.aload_n 0, 1) := by decide +kernel
theorem dL_law_509 : decode cL_law 509 = .ok (.iload_n 3, 1) := by decide +kernel
theorem dL_law_510 : decode cL_law 510 = .ok (.iconst 1, 1) := by decide +kernel
theorem dL_law_511 : decode cL_law 511 = .ok (.iadd, 1) := by decide +kernel
theorem dL_law_512 : decode cL_law 512 = .ok (.iaload, 1) := by decide +kernel
theorem dL_law_513 : decode cL_law 513 = .ok (.aload_n 0, 1) := by decide +kernel
theorem dL_law_514 : decode cL_law 514 = .ok (.iload_n 3, 1) := by decide +kernel
theorem dL_law_515 : decode cL_law 515 = .ok (.iconst 2, 1) := by decide +kernel
theorem dL_law_516 : decode cL_law 516 = .ok (.iadd, 1) := by decide +kernel
theorem dL_law_517 : decode cL_law 517 = .ok (.iaload, 1) := by decide +kernel
theorem dL_law_518 : decode cL_law 518 = .ok (.invokevirtual 69, 3) := by decide +kernel
theorem dL_law_521 : decode cL_law 521 = .ok (.aload_n 2, 1) := by decide +kernel
theorem dL_law_522 : decode cL_law 522 = .ok (.aload_n 0, 1) := by decide +kernel
theorem dL_law_523 : decode cL_law 523 = .ok (.iload_n 3, 1) := by decide +kernel
theorem dL_law_524 : decode cL_law 524 = .ok (.iconst 1, 1) := by decide +kernel
theorem dL_law_525 : decode cL_law 525 = .ok (.iadd, 1) := by decide +kernel
theorem dL_law_526 : decode cL_law 526 = .ok (.iaload, 1) := by decide +kernel
theorem dL_law_527 : decode cL_law 527 = .ok (.aload_n 0, 1) := by decide +kernel
theorem dL_law_528 : decode cL_law 528 = .ok (.iload_n 3, 1) := by decide +kernel
theorem dL_law_529 : decode cL_law 529 = .ok (.iconst 2, 1) := by decide +kernel
theorem dL_law_530 : decode cL_law 530 = .ok (.iadd, 1) := by decide +kernel
theorem dL_law_531 : decode cL_law 531 = .ok (.iaload, 1) := by decide +kernel
theorem dL_law_532 : decode cL_law 532 = .ok (.invokevirtual 72, 3) := by decide +kernel
theorem dL_law_535 : decode cL_law 535 = .ok (.if_icmp .eq 509, 3) := by decide +kernel
theorem dL_law_538 : decode cL_law 538 = .ok (.iconst 0, 1) := by decide +kernel
theorem dL_law_539 : decode cL_law 539 = .ok (.ireturn, 1) := by decide +kernel
theorem dL_law_540 : decode cL_law 540 = .ok (.aload_n 1, 1) := by decide +kernel
theorem dL_law_541 : decode cL_law 541 = .ok (.aload_n 0, 1) := by decide +kernel
theorem dL_law_542 : decode cL_law 542 = .ok (.iload_n 3, 1) := by decide +kernel
theorem dL_law_543 : decode cL_law 543 = .ok (.iconst 1, 1) := by decide +kernel
theorem dL_law_544 : decode cL_law 544 = .ok (.iadd, 1) := by decide +kernel
theorem dL_law_545 : decode cL_law 545 = .ok (.iaload, 1) := by decide +kernel
theorem dL_law_546 : decode cL_law 546 = .ok (.aload_n 0, 1) := by decide +kernel
theorem dL_law_547 : decode cL_law 547 = .ok (.iload_n 3, 1) := by decide +kernel
theorem dL_law_548 : decode cL_law 548 = .ok (.iconst 2, 1) := by decide +kernel
theorem dL_law_549 : decode cL_law 549 = .ok (.iadd, 1) := by decide +kernel
theorem dL_law_550 : decode cL_law 550 = .ok (.iaload, 1) := by decide +kernel
theorem dL_law_551 : decode cL_law 551 = .ok (.invokevirtual 73, 3) := by decide +kernel
theorem dL_law_554 : decode cL_law 554 = .ok (.aload_n 2, 1) := by decide +kernel
theorem dL_law_555 : decode cL_law 555 = .ok (.aload_n 0, 1) := by decide +kernel
theorem dL_law_556 : decode cL_law 556 = .ok (.iload_n 3, 1) := by decide +kernel
theorem dL_law_557 : decode cL_law 557 = .ok (.iconst 1, 1) := by decide +kernel
theorem dL_law_558 : decode cL_law 558 = .ok (.iadd, 1) := by decide +kernel
theorem dL_law_559 : decode cL_law 559 = .ok (.iaload, 1) := by decide +kernel
theorem dL_law_560 : decode cL_law 560 = .ok (.aload_n 0, 1) := by decide +kernel
theorem dL_law_561 : decode cL_law 561 = .ok (.iload_n 3, 1) := by decide +kernel
theorem dL_law_562 : decode cL_law 562 = .ok (.iconst 2, 1) := by decide +kernel
theorem dL_law_563 : decode cL_law 563 = .ok (.iadd, 1) := by decide +kernel
theorem dL_law_564 : decode cL_law 564 = .ok (.iaload, 1) := by decide +kernel
theorem dL_law_565 : decode cL_law 565 = .ok (.invokevirtual 76, 3) := by decide +kernel
theorem dL_law_568 : decode cL_law 568 = .ok (.if_icmp .eq 476, 3) := by decide +kernel
theorem dL_law_571 : decode cL_law 571 = .ok (.iconst 0, 1) := by decide +kernel
theorem dL_law_572 : decode cL_law 572 = .ok (.ireturn, 1) := by decide +kernel
theorem dL_law_573 : decode cL_law 573 = .ok (.aload_n 1, 1) := by decide +kernel
theorem dL_law_574 : decode cL_law 574 = .ok (.aload_n 0, 1) := by decide +kernel
theorem dL_law_575 : decode cL_law 575 = .ok (.iload_n 3, 1) := by decide +kernel
theorem dL_law_576 : decode cL_law 576 = .ok (.iconst 1, 1) := by decide +kernel
theorem dL_law_577 : decode cL_law 577 = .ok (.iadd, 1) := by decide +kernel
theorem dL_law_578 : decode cL_law 578 = .ok (.iaload, 1) := by decide +kernel
theorem dL_law_579 : decode cL_law 579 = .ok (.aload_n 0, 1) := by decide +kernel
theorem dL_law_580 : decode cL_law 580 = .ok (.iload_n 3, 1) := by decide +kernel
theorem dL_law_581 : decode cL_law 581 = .ok (.iconst 2, 1) := by decide +kernel
theorem dL_law_582 : decode cL_law 582 = .ok (.iadd, 1) := by decide +kernel
theorem dL_law_583 : decode cL_law 583 = .ok (.iaload, 1) := by decide +kernel
theorem dL_law_584 : decode cL_law 584 = .ok (.invokevirtual 77, 3) := by decide +kernel
theorem dL_law_587 : decode cL_law 587 = .ok (.aload_n 2, 1) := by decide +kernel
theorem dL_law_588 : decode cL_law 588 = .ok (.aload_n 0, 1) := by decide +kernel
theorem dL_law_589 : decode cL_law 589 = .ok (.iload_n 3, 1) := by decide +kernel
theorem dL_law_590 : decode cL_law 590 = .ok (.iconst 1, 1) := by decide +kernel
theorem dL_law_591 : decode cL_law 591 = .ok (.iadd, 1) := by decide +kernel
theorem dL_law_592 : decode cL_law 592 = .ok (.iaload, 1) := by decide +kernel
theorem dL_law_593 : decode cL_law 593 = .ok (.aload_n 0, 1) := by decide +kernel
theorem dL_law_594 : decode cL_law 594 = .ok (.iload_n 3, 1) := by decide +kernel
theorem dL_law_595 : decode cL_law 595 = .ok (.iconst 2, 1) := by decide +kernel
theorem dL_law_596 : decode cL_law 596 = .ok (.iadd, 1) := by decide +kernel
theorem dL_law_597 : decode cL_law 597 = .ok (.iaload, 1) := by decide +kernel
theorem dL_law_598 : decode cL_law 598 = .ok (.invokevirtual 80, 3) := by decide +kernel
theorem dL_law_601 : decode cL_law 601 = .ok (.if_icmp .eq 443, 3) := by decide +kernel
theorem dL_law_604 : decode cL_law 604 = .ok (.iconst 0, 1) := by decide +kernel
theorem dL_law_605 : decode cL_law 605 = .ok (.ireturn, 1) := by decide +kernel
theorem dL_law_606 : decode cL_law 606 = .ok (.aload_n 1, 1) := by decide +kernel
theorem dL_law_607 : decode cL_law 607 = .ok (.aload_n 0, 1) := by decide +kernel
theorem dL_law_608 : decode cL_law 608 = .ok (.iload_n 3, 1) := by decide +kernel
theorem dL_law_609 : decode cL_law 609 = .ok (.iconst 1, 1) := by decide +kernel
theorem dL_law_610 : decode cL_law 610 = .ok (.iadd, 1) := by decide +kernel
theorem dL_law_611 : decode cL_law 611 = .ok (.iaload, 1) := by decide +kernel
theorem dL_law_612 : decode cL_law 612 = .ok (.aload_n 0, 1) := by decide +kernel
theorem dL_law_613 : decode cL_law 613 = .ok (.iload_n 3, 1) := by decide +kernel
theorem dL_law_614 : decode cL_law 614 = .ok (.iconst 2, 1) := by decide +kernel
theorem dL_law_615 : decode cL_law 615 = .ok (.iadd, 1) := by decide +kernel
theorem dL_law_616 : decode cL_law 616 = .ok (.iaload, 1) := by decide +kernel
theorem dL_law_617 : decode cL_law 617 = .ok (.aload_n 0, 1) := by decide +kernel
theorem dL_law_618 : decode cL_law 618 = .ok (.iload_n 3, 1) := by decide +kernel
theorem dL_law_619 : decode cL_law 619 = .ok (.iconst 3, 1) := by decide +kernel
theorem dL_law_620 : decode cL_law 620 = .ok (.iadd, 1) := by decide +kernel
theorem dL_law_621 : decode cL_law 621 = .ok (.iaload, 1) := by decide +kernel
theorem dL_law_622 : decode cL_law 622 = .ok (.invokevirtual 81, 3) := by decide +kernel
theorem dL_law_625 : decode cL_law 625 = .ok (.aload_n 2, 1) := by decide +kernel
theorem dL_law_626 : decode cL_law 626 = .ok (.aload_n 0, 1) := by decide +kernel
theorem dL_law_627 : decode cL_law 627 = .ok (.iload_n 3, 1) := by decide +kernel
theorem dL_law_628 : decode cL_law 628 = .ok (.iconst 1, 1) := by decide +kernel
theorem dL_law_629 : decode cL_law 629 = .ok (.iadd, 1) := by decide +kernel
theorem dL_law_630 : decode cL_law 630 = .ok (.iaload, 1) := by decide +kernel
theorem dL_law_631 : decode cL_law 631 = .ok (.aload_n 0, 1) := by decide +kernel
theorem dL_law_632 : decode cL_law 632 = .ok (.iload_n 3, 1) := by decide +kernel
theorem dL_law_633 : decode cL_law 633 = .ok (.iconst 2, 1) := by decide +kernel
theorem dL_law_634 : decode cL_law 634 = .ok (.iadd, 1) := by decide +kernel
theorem dL_law_635 : decode cL_law 635 = .ok (.iaload, 1) := by decide +kernel
theorem dL_law_636 : decode cL_law 636 = .ok (.aload_n 0, 1) := by decide +kernel
theorem dL_law_637 : decode cL_law 637 = .ok (.iload_n 3, 1) := by decide +kernel
theorem dL_law_638 : decode cL_law 638 = .ok (.iconst 3, 1) := by decide +kernel
theorem dL_law_639 : decode cL_law 639 = .ok (.iadd, 1) := by decide +kernel
theorem dL_law_640 : decode cL_law 640 = .ok (.iaload, 1) := by decide +kernel
theorem dL_law_641 : decode cL_law 641 = .ok (.invokevirtual 84, 3) := by decide +kernel
theorem dL_law_644 : decode cL_law 644 = .ok (.if_icmp .eq 400, 3) := by decide +kernel
theorem dL_law_647 : decode cL_law 647 = .ok (.iconst 0, 1) := by decide +kernel
theorem dL_law_648 : decode cL_law 648 = .ok (.ireturn, 1) := by decide +kernel
theorem dL_law_649 : decode cL_law 649 = .ok (.aload_n 1, 1) := by decide +kernel
theorem dL_law_650 : decode cL_law 650 = .ok (.aload_n 0, 1) := by decide +kernel
theorem dL_law_651 : decode cL_law 651 = .ok (.iload_n 3, 1) := by decide +kernel
theorem dL_law_652 : decode cL_law 652 = .ok (.iconst 1, 1) := by decide +kernel
theorem dL_law_653 : decode cL_law 653 = .ok (.iadd, 1) := by decide +kernel
theorem dL_law_654 : decode cL_law 654 = .ok (.iaload, 1) := by decide +kernel
theorem dL_law_655 : decode cL_law 655 = .ok (.aload_n 0, 1) := by decide +kernel
theorem dL_law_656 : decode cL_law 656 = .ok (.iload_n 3, 1) := by decide +kernel
theorem dL_law_657 : decode cL_law 657 = .ok (.iconst 2, 1) := by decide +kernel
theorem dL_law_658 : decode cL_law 658 = .ok (.iadd, 1) := by decide +kernel
theorem dL_law_659 : decode cL_law 659 = .ok (.iaload, 1) := by decide +kernel
theorem dL_law_660 : decode cL_law 660 = .ok (.aload_n 0, 1) := by decide +kernel
theorem dL_law_661 : decode cL_law 661 = .ok (.iload_n 3, 1) := by decide +kernel
theorem dL_law_662 : decode cL_law 662 = .ok (.iconst 3, 1) := by decide +kernel
theorem dL_law_663 : decode cL_law 663 = .ok (.iadd, 1) := by decide +kernel
theorem dL_law_664 : decode cL_law 664 = .ok (.iaload, 1) := by decide +kernel
theorem dL_law_665 : decode cL_law 665 = .ok (.invokevirtual 85, 3) := by decide +kernel
theorem dL_law_668 : decode cL_law 668 = .ok (.aload_n 2, 1) := by decide +kernel
theorem dL_law_669 : decode cL_law 669 = .ok (.aload_n 0, 1) := by decide +kernel
theorem dL_law_670 : decode cL_law 670 = .ok (.iload_n 3, 1) := by decide +kernel
theorem dL_law_671 : decode cL_law 671 = .ok (.iconst 1, 1) := by decide +kernel
theorem dL_law_672 : decode cL_law 672 = .ok (.iadd, 1) := by decide +kernel
theorem dL_law_673 : decode cL_law 673 = .ok (.iaload, 1) := by decide +kernel
theorem dL_law_674 : decode cL_law 674 = .ok (.aload_n 0, 1) := by decide +kernel
theorem dL_law_675 : decode cL_law 675 = .ok (.iload_n 3, 1) := by decide +kernel
theorem dL_law_676 : decode cL_law 676 = .ok (.iconst 2, 1) := by decide +kernel
theorem dL_law_677 : decode cL_law 677 = .ok (.iadd, 1) := by decide +kernel
theorem dL_law_678 : decode cL_law 678 = .ok (.iaload, 1) := by decide +kernel
theorem dL_law_679 : decode cL_law 679 = .ok (.aload_n 0, 1) := by decide +kernel
theorem dL_law_680 : decode cL_law 680 = .ok (.iload_n 3, 1) := by decide +kernel
theorem dL_law_681 : decode cL_law 681 = .ok (.iconst 3, 1) := by decide +kernel
theorem dL_law_682 : decode cL_law 682 = .ok (.iadd, 1) := by decide +kernel
theorem dL_law_683 : decode cL_law 683 = .ok (.iaload, 1) := by decide +kernel
theorem dL_law_684 : decode cL_law 684 = .ok (.invokevirtual 88, 3) := by decide +kernel
theorem dL_law_687 : decode cL_law 687 = .ok (.if_icmp .eq 357, 3) := by decide +kernel
theorem dL_law_690 : decode cL_law 690 = .ok (.iconst 0, 1) := by decide +kernel
theorem dL_law_691 : decode cL_law 691 = .ok (.ireturn, 1) := by decide +kernel
theorem dL_law_692 : decode cL_law 692 = .ok (.aload_n 1, 1) := by decide +kernel
theorem dL_law_693 : decode cL_law 693 = .ok (.aload_n 0, 1) := by decide +kernel
theorem dL_law_694 : decode cL_law 694 = .ok (.iload_n 3, 1) := by decide +kernel
theorem dL_law_695 : decode cL_law 695 = .ok (.iconst 1, 1) := by decide +kernel
theorem dL_law_696 : decode cL_law 696 = .ok (.iadd, 1) := by decide +kernel
theorem dL_law_697 : decode cL_law 697 = .ok (.iaload, 1) := by decide +kernel
theorem dL_law_698 : decode cL_law 698 = .ok (.aload_n 0, 1) := by decide +kernel
theorem dL_law_699 : decode cL_law 699 = .ok (.iload_n 3, 1) := by decide +kernel
theorem dL_law_700 : decode cL_law 700 = .ok (.iconst 2, 1) := by decide +kernel
theorem dL_law_701 : decode cL_law 701 = .ok (.iadd, 1) := by decide +kernel
theorem dL_law_702 : decode cL_law 702 = .ok (.iaload, 1) := by decide +kernel
theorem dL_law_703 : decode cL_law 703 = .ok (.aload_n 0, 1) := by decide +kernel
theorem dL_law_704 : decode cL_law 704 = .ok (.iload_n 3, 1) := by decide +kernel
theorem dL_law_705 : decode cL_law 705 = .ok (.iconst 3, 1) := by decide +kernel
theorem dL_law_706 : decode cL_law 706 = .ok (.iadd, 1) := by decide +kernel
theorem dL_law_707 : decode cL_law 707 = .ok (.iaload, 1) := by decide +kernel
theorem dL_law_708 : decode cL_law 708 = .ok (.invokevirtual 89, 3) := by decide +kernel
theorem dL_law_711 : decode cL_law 711 = .ok (.aload_n 2, 1) := by decide +kernel
theorem dL_law_712 : decode cL_law 712 = .ok (.aload_n 0, 1) := by decide +kernel
theorem dL_law_713 : decode cL_law 713 = .ok (.iload_n 3, 1) := by decide +kernel
theorem dL_law_714 : decode cL_law 714 = .ok (.iconst 1, 1) := by decide +kernel
theorem dL_law_715 : decode cL_law 715 = .ok (.iadd, 1) := by decide +kernel
theorem dL_law_716 : decode cL_law 716 = .ok (.iaload, 1) := by decide +kernel
theorem dL_law_717 : decode cL_law 717 = .ok (.aload_n 0, 1) := by decide +kernel
theorem dL_law_718 : decode cL_law 718 = .ok (.iload_n 3, 1) := by decide +kernel
theorem dL_law_719 : decode cL_law 719 = .ok (.iconst 2, 1) := by decide +kernel
theorem dL_law_720 : decode cL_law 720 = .ok (.iadd, 1) := by decide +kernel
theorem dL_law_721 : decode cL_law 721 = .ok (.iaload, 1) := by decide +kernel
theorem dL_law_722 : decode cL_law 722 = .ok (.aload_n 0, 1) := by decide +kernel
theorem dL_law_723 : decode cL_law 723 = .ok (.iload_n 3, 1) := by decide +kernel
theorem dL_law_724 : decode cL_law 724 = .ok (.iconst 3, 1) := by decide +kernel
theorem dL_law_725 : decode cL_law 725 = .ok (.iadd, 1) := by decide +kernel
theorem dL_law_726 : decode cL_law 726 = .ok (.iaload, 1) := by decide +kernel
theorem dL_law_727 : decode cL_law 727 = .ok (.invokevirtual 92, 3) := by decide +kernel
theorem dL_law_730 : decode cL_law 730 = .ok (.if_icmp .eq 314, 3) := by decide +kernel
theorem dL_law_733 : decode cL_law 733 = .ok (.iconst 0, 1) := by decide +kernel
theorem dL_law_734 : decode cL_law 734 = .ok (.ireturn, 1) := by decide +kernel
theorem dL_law_735 : decode cL_law 735 = .ok (.aload_n 1, 1) := by decide +kernel
end
section
theorem dL_law_736 : decode cL_law 736 = .ok (.aload_n 0, 1) := by decide +kernel
theorem dL_law_737 : decode cL_law 737 = .ok (.iload_n 3, 1) := by decide +kernel
theorem dL_law_738 : decode cL_law 738 = .ok (.iconst 1, 1) := by decide +kernel
theorem dL_law_739 : decode cL_law 739 = .ok (.iadd, 1) := by decide +kernel
theorem dL_law_740 : decode cL_law 740 = .ok (.iaload, 1) := by decide +kernel
theorem dL_law_741 : decode cL_law 741 = .ok (.aload_n 0, 1) := by decide +kernel
theorem dL_law_742 : decode cL_law 742 = .ok (.iload_n 3, 1) := by decide +kernel
theorem dL_law_743 : decode cL_law 743 = .ok (.iconst 2, 1) := by decide +kernel
theorem dL_law_744 : decode cL_law 744 = .ok (.iadd, 1) := by decide +kernel
theorem dL_law_745 : decode cL_law 745 = .ok (.iaload, 1) := by decide +kernel
theorem dL_law_746 : decode cL_law 746 = .ok (.invokevirtual 93, 3) := by decide +kernel
theorem dL_law_749 : decode cL_law 749 = .ok (.aload_n 2, 1) := by decide +kernel
theorem dL_law_750 : decode cL_law 750 = .ok (.aload_n 0, 1) := by decide +kernel
theorem dL_law_751 : decode cL_law 751 = .ok (.iload_n 3, 1) := by decide +kernel
theorem dL_law_752 : decode cL_law 752 = .ok (.iconst 1, 1) := by decide +kernel
theorem dL_law_753 : decode cL_law 753 = .ok (.iadd, 1) := by decide +kernel
theorem dL_law_754 : decode cL_law 754 = .ok (.iaload, 1) := by decide +kernel
theorem dL_law_755 : decode cL_law 755 = .ok (.aload_n 0, 1) := by decide +kernel
theorem dL_law_756 : decode cL_law 756 = .ok (.iload_n 3, 1) := by decide +kernel
theorem dL_law_757 : decode cL_law 757 = .ok (.iconst 2, 1) := by decide +kernel
theorem dL_law_758 : decode cL_law 758 = .ok (.iadd, 1) := by decide +kernel
theorem dL_law_759 : decode cL_law 759 = .ok (.iaload, 1) := by decide +kernel
theorem dL_law_760 : decode cL_law 760 = .ok (.invokevirtual 96, 3) := by decide +kernel
theorem dL_law_763 : decode cL_law 763 = .ok (.if_icmp .eq 281, 3) := by decide +kernel
theorem dL_law_766 : decode cL_law 766 = .ok (.iconst 0, 1) := by decide +kernel
theorem dL_law_767 : decode cL_law 767 = .ok (.ireturn, 1) := by decide +kernel
theorem dL_law_768 : decode cL_law 768 = .ok (.aload_n 1, 1) := by decide +kernel
theorem dL_law_769 : decode cL_law 769 = .ok (.aload_n 0, 1) := by decide +kernel
theorem dL_law_770 : decode cL_law 770 = .ok (.iload_n 3, 1) := by decide +kernel
theorem dL_law_771 : decode cL_law 771 = .ok (.iconst 1, 1) := by decide +kernel
theorem dL_law_772 : decode cL_law 772 = .ok (.iadd, 1) := by decide +kernel
theorem dL_law_773 : decode cL_law 773 = .ok (.iaload, 1) := by decide +kernel
theorem dL_law_774 : decode cL_law 774 = .ok (.invokevirtual 97, 3) := by decide +kernel
theorem dL_law_777 : decode cL_law 777 = .ok (.aload_n 2, 1) := by decide +kernel
theorem dL_law_778 : decode cL_law 778 = .ok (.aload_n 0, 1) := by decide +kernel
theorem dL_law_779 : decode cL_law 779 = .ok (.iload_n 3, 1) := by decide +kernel
theorem dL_law_780 : decode cL_law 780 = .ok (.iconst 1, 1) := by decide +kernel
theorem dL_law_781 : decode cL_law 781 = .ok (.iadd, 1) := by decide +kernel
theorem dL_law_782 : decode cL_law 782 = .ok (.iaload, 1) := by decide +kernel
theorem dL_law_783 : decode cL_law 783 = .ok (.invokevirtual 100, 3) := by decide +kernel
theorem dL_law_786 : decode cL_law 786 = .ok (.if_icmp .eq 258, 3) := by decide +kernel
theorem dL_law_789 : decode cL_law 789 = .ok (.iconst 0, 1) := by decide +kernel
theorem dL_law_790 : decode cL_law 790 = .ok (.ireturn, 1) := by decide +kernel
theorem dL_law_791 : decode cL_law 791 = .ok (.aload_n 1, 1) := by decide +kernel
theorem dL_law_792 : decode cL_law 792 = .ok (.aload_n 0, 1) := by decide +kernel
theorem dL_law_793 : decode cL_law 793 = .ok (.iload_n 3, 1) := by decide +kernel
theorem dL_law_794 : decode cL_law 794 = .ok (.iconst 1, 1) := by decide +kernel
theorem dL_law_795 : decode cL_law 795 = .ok (.iadd, 1) := by decide +kernel
theorem dL_law_796 : decode cL_law 796 = .ok (.iaload, 1) := by decide +kernel
theorem dL_law_797 : decode cL_law 797 = .ok (.invokevirtual 101, 3) := by decide +kernel
theorem dL_law_800 : decode cL_law 800 = .ok (.aload_n 2, 1) := by decide +kernel
theorem dL_law_801 : decode cL_law 801 = .ok (.aload_n 0, 1) := by decide +kernel
theorem dL_law_802 : decode cL_law 802 = .ok (.iload_n 3, 1) := by decide +kernel
theorem dL_law_803 : decode cL_law 803 = .ok (.iconst 1, 1) := by decide +kernel
theorem dL_law_804 : decode cL_law 804 = .ok (.iadd, 1) := by decide +kernel
theorem dL_law_805 : decode cL_law 805 = .ok (.iaload, 1) := by decide +kernel
theorem dL_law_806 : decode cL_law 806 = .ok (.invokevirtual 104, 3) := by decide +kernel
theorem dL_law_809 : decode cL_law 809 = .ok (.if_icmp .eq 235, 3) := by decide +kernel
theorem dL_law_812 : decode cL_law 812 = .ok (.iconst 0, 1) := by decide +kernel
theorem dL_law_813 : decode cL_law 813 = .ok (.ireturn, 1) := by decide +kernel
theorem dL_law_814 : decode cL_law 814 = .ok (.aload_n 1, 1) := by decide +kernel
theorem dL_law_815 : decode cL_law 815 = .ok (.aload_n 0, 1) := by decide +kernel
theorem dL_law_816 : decode cL_law 816 = .ok (.iload_n 3, 1) := by decide +kernel
theorem dL_law_817 : decode cL_law 817 = .ok (.iconst 1, 1) := by decide +kernel
theorem dL_law_818 : decode cL_law 818 = .ok (.iadd, 1) := by decide +kernel
theorem dL_law_819 : decode cL_law 819 = .ok (.iaload, 1) := by decide +kernel
theorem dL_law_820 : decode cL_law 820 = .ok (.aload_n 0, 1) := by decide +kernel
theorem dL_law_821 : decode cL_law 821 = .ok (.iload_n 3, 1) := by decide +kernel
theorem dL_law_822 : decode cL_law 822 = .ok (.iconst 2, 1) := by decide +kernel
theorem dL_law_823 : decode cL_law 823 = .ok (.iadd, 1) := by decide +kernel
theorem dL_law_824 : decode cL_law 824 = .ok (.iaload, 1) := by decide +kernel
theorem dL_law_825 : decode cL_law 825 = .ok (.invokevirtual 105, 3) := by decide +kernel
theorem dL_law_828 : decode cL_law 828 = .ok (.aload_n 2, 1) := by decide +kernel
theorem dL_law_829 : decode cL_law 829 = .ok (.aload_n 0, 1) := by decide +kernel
theorem dL_law_830 : decode cL_law 830 = .ok (.iload_n 3, 1) := by decide +kernel
theorem dL_law_831 : decode cL_law 831 = .ok (.iconst 1, 1) := by decide +kernel
theorem dL_law_832 : decode cL_law 832 = .ok (.iadd, 1) := by decide +kernel
theorem dL_law_833 : decode cL_law 833 = .ok (.iaload, 1) := by decide +kernel
theorem dL_law_834 : decode cL_law 834 = .ok (.aload_n 0, 1) := by decide +kernel
theorem dL_law_835 : decode cL_law 835 = .ok (.iload_n 3, 1) := by decide +kernel
theorem dL_law_836 : decode cL_law 836 = .ok (.iconst 2, 1) := by decide +kernel
theorem dL_law_837 : decode cL_law 837 = .ok (.iadd, 1) := by decide +kernel
theorem dL_law_838 : decode cL_law 838 = .ok (.iaload, 1) := by decide +kernel
theorem dL_law_839 : decode cL_law 839 = .ok (.invokevirtual 108, 3) := by decide +kernel
theorem dL_law_842 : decode cL_law 842 = .ok (.if_icmp .eq 202, 3) := by decide +kernel
theorem dL_law_845 : decode cL_law 845 = .ok (.iconst 0, 1) := by decide +kernel
theorem dL_law_846 : decode cL_law 846 = .ok (.ireturn, 1) := by decide +kernel
theorem dL_law_847 : decode cL_law 847 = .ok (.aload_n 1, 1) := by decide +kernel
theorem dL_law_848 : decode cL_law 848 = .ok (.aload_n 0, 1) := by decide +kernel
theorem dL_law_849 : decode cL_law 849 = .ok (.iload_n 3, 1) := by decide +kernel
theorem dL_law_850 : decode cL_law 850 = .ok (.iconst 1, 1) := by decide +kernel
theorem dL_law_851 : decode cL_law 851 = .ok (.iadd, 1) := by decide +kernel
theorem dL_law_852 : decode cL_law 852 = .ok (.iaload, 1) := by decide +kernel
theorem dL_law_853 : decode cL_law 853 = .ok (.invokevirtual 109, 3) := by decide +kernel
theorem dL_law_856 : decode cL_law 856 = .ok (.aload_n 2, 1) := by decide +kernel
theorem dL_law_857 : decode cL_law 857 = .ok (.aload_n 0, 1) := by decide +kernel
theorem dL_law_858 : decode cL_law 858 = .ok (.iload_n 3, 1) := by decide +kernel
theorem dL_law_859 : decode cL_law 859 = .ok (.iconst 1, 1) := by decide +kernel
theorem dL_law_860 : decode cL_law 860 = .ok (.iadd, 1) := by decide +kernel
theorem dL_law_861 : decode cL_law 861 = .ok (.iaload, 1) := by decide +kernel
theorem dL_law_862 : decode cL_law 862 = .ok (.invokevirtual 112, 3) := by decide +kernel
theorem dL_law_865 : decode cL_law 865 = .ok (.if_icmp .eq 179, 3) := by decide +kernel
theorem dL_law_868 : decode cL_law 868 = .ok (.iconst 0, 1) := by decide +kernel
theorem dL_law_869 : decode cL_law 869 = .ok (.ireturn, 1) := by decide +kernel
theorem dL_law_870 : decode cL_law 870 = .ok (.aload_n 1, 1) := by decide +kernel
theorem dL_law_871 : decode cL_law 871 = .ok (.aload_n 0, 1) := by decide +kernel
theorem dL_law_872 : decode cL_law 872 = .ok (.iload_n 3, 1) := by decide +kernel
theorem dL_law_873 : decode cL_law 873 = .ok (.iconst 1, 1) := by decide +kernel
theorem dL_law_874 : decode cL_law 874 = .ok (.iadd, 1) := by decide +kernel
theorem dL_law_875 : decode cL_law 875 = .ok (.iaload, 1) := by decide +kernel
theorem dL_law_876 : decode cL_law 876 = .ok (.aload_n 0, 1) := by decide +kernel
theorem dL_law_877 : decode cL_law 877 = .ok (.iload_n 3, 1) := by decide +kernel
theorem dL_law_878 : decode cL_law 878 = .ok (.iconst 2, 1) := by decide +kernel
theorem dL_law_879 : decode cL_law 879 = .ok (.iadd, 1) := by decide +kernel
theorem dL_law_880 : decode cL_law 880 = .ok (.iaload, 1) := by decide +kernel
theorem dL_law_881 : decode cL_law 881 = .ok (.invokevirtual 113, 3) := by decide +kernel
theorem dL_law_884 : decode cL_law 884 = .ok (.aload_n 2, 1) := by decide +kernel
theorem dL_law_885 : decode cL_law 885 = .ok (.aload_n 0, 1) := by decide +kernel
theorem dL_law_886 : decode cL_law 886 = .ok (.iload_n 3, 1) := by decide +kernel
theorem dL_law_887 : decode cL_law 887 = .ok (.iconst 1, 1) := by decide +kernel
theorem dL_law_888 : decode cL_law 888 = .ok (.iadd, 1) := by decide +kernel
theorem dL_law_889 : decode cL_law 889 = .ok (.iaload, 1) := by decide +kernel
theorem dL_law_890 : decode cL_law 890 = .ok (.aload_n 0, 1) := by decide +kernel
theorem dL_law_891 : decode cL_law 891 = .ok (.iload_n 3, 1) := by decide +kernel
theorem dL_law_892 : decode cL_law 892 = .ok (.iconst 2, 1) := by decide +kernel
theorem dL_law_893 : decode cL_law 893 = .ok (.iadd, 1) := by decide +kernel
theorem dL_law_894 : decode cL_law 894 = .ok (.iaload, 1) := by decide +kernel
theorem dL_law_895 : decode cL_law 895 = .ok (.invokevirtual 116, 3) := by decide +kernel
theorem dL_law_898 : decode cL_law 898 = .ok (.if_icmp .eq 146, 3) := by decide +kernel
theorem dL_law_901 : decode cL_law 901 = .ok (.iconst 0, 1) := by decide +kernel
theorem dL_law_902 : decode cL_law 902 = .ok (.ireturn, 1) := by decide +kernel
theorem dL_law_903 : decode cL_law 903 = .ok (.aload_n 1, 1) := by decide +kernel
theorem dL_law_904 : decode cL_law 904 = .ok (.aload_n 0, 1) := by decide +kernel
theorem dL_law_905 : decode cL_law 905 = .ok (.iload_n 3, 1) := by decide +kernel
theorem dL_law_906 : decode cL_law 906 = .ok (.iconst 1, 1) := by decide +kernel
theorem dL_law_907 : decode cL_law 907 = .ok (.iadd, 1) := by decide +kernel
theorem dL_law_908 : decode cL_law 908 = .ok (.iaload, 1) := by decide +kernel
theorem dL_law_909 : decode cL_law 909 = .ok (.invokevirtual 117, 3) := by decide +kernel
theorem dL_law_912 : decode cL_law 912 = .ok (.aload_n 2, 1) := by decide +kernel
theorem dL_law_913 : decode cL_law 913 = .ok (.aload_n 0, 1) := by decide +kernel
theorem dL_law_914 : decode cL_law 914 = .ok (.iload_n 3, 1) := by decide +kernel
theorem dL_law_915 : decode cL_law 915 = .ok (.iconst 1, 1) := by decide +kernel
theorem dL_law_916 : decode cL_law 916 = .ok (.iadd, 1) := by decide +kernel
theorem dL_law_917 : decode cL_law 917 = .ok (.iaload, 1) := by decide +kernel
theorem dL_law_918 : decode cL_law 918 = .ok (.invokevirtual 120, 3) := by decide +kernel
theorem dL_law_921 : decode cL_law 921 = .ok (.if_icmp .eq 123, 3) := by decide +kernel
theorem dL_law_924 : decode cL_law 924 = .ok (.iconst 0, 1) := by decide +kernel
theorem dL_law_925 : decode cL_law 925 = .ok (.ireturn, 1) := by decide +kernel
theorem dL_law_926 : decode cL_law 926 = .ok (.aload_n 1, 1) := by decide +kernel
theorem dL_law_927 : decode cL_law 927 = .ok (.aload_n 0, 1) := by decide +kernel
theorem dL_law_928 : decode cL_law 928 = .ok (.iload_n 3, 1) := by decide +kernel
theorem dL_law_929 : decode cL_law 929 = .ok (.iconst 1, 1) := by decide +kernel
theorem dL_law_930 : decode cL_law 930 = .ok (.iadd, 1) := by decide +kernel
theorem dL_law_931 : decode cL_law 931 = .ok (.iaload, 1) := by decide +kernel
theorem dL_law_932 : decode cL_law 932 = .ok (.aload_n 0, 1) := by decide +kernel
theorem dL_law_933 : decode cL_law 933 = .ok (.iload_n 3, 1) := by decide +kernel
theorem dL_law_934 : decode cL_law 934 = .ok (.iconst 2, 1) := by decide +kernel
theorem dL_law_935 : decode cL_law 935 = .ok (.iadd, 1) := by decide +kernel
theorem dL_law_936 : decode cL_law 936 = .ok (.iaload, 1) := by decide +kernel
theorem dL_law_937 : decode cL_law 937 = .ok (.ifCond .eq 7, 3) := by decide +kernel
theorem dL_law_940 : decode cL_law 940 = .ok (.iconst 1, 1) := by decide +kernel
theorem dL_law_941 : decode cL_law 941 = .ok (.goto 4, 3) := by decide +kernel
theorem dL_law_944 : decode cL_law 944 = .ok (.iconst 0, 1) := by decide +kernel
theorem dL_law_945 : decode cL_law 945 = .ok (.invokevirtual 121, 3) := by decide +kernel
theorem dL_law_948 : decode cL_law 948 = .ok (.aload_n 2, 1) := by decide +kernel
theorem dL_law_949 : decode cL_law 949 = .ok (.aload_n 0, 1) := by decide +kernel
theorem dL_law_950 : decode cL_law 950 = .ok (.iload_n 3, 1) := by decide +kernel
theorem dL_law_951 : decode cL_law 951 = .ok (.iconst 1, 1) := by decide +kernel
theorem dL_law_952 : decode cL_law 952 = .ok (.iadd, 1) := by decide +kernel
theorem dL_law_953 : decode cL_law 953 = .ok (.iaload, 1) := by decide +kernel
theorem dL_law_954 : decode cL_law 954 = .ok (.aload_n 0, 1) := by decide +kernel
theorem dL_law_955 : decode cL_law 955 = .ok (.iload_n 3, 1) := by decide +kernel
theorem dL_law_956 : decode cL_law 956 = .ok (.iconst 2, 1) := by decide +kernel
theorem dL_law_957 : decode cL_law 957 = .ok (.iadd, 1) := by decide +kernel
theorem dL_law_958 : decode cL_law 958 = .ok (.iaload, 1) := by decide +kernel
theorem dL_law_959 : decode cL_law 959 = .ok (.ifCond .eq 7, 3) := by decide +kernel
theorem dL_law_962 : decode cL_law 962 = .ok (.iconst 1, 1) := by decide +kernel
theorem dL_law_963 : decode cL_law 963 = .ok (.goto 4, 3) := by decide +kernel
theorem dL_law_966 : decode cL_law 966 = .ok (.iconst 0, 1) := by decide +kernel
theorem dL_law_967 : decode cL_law 967 = .ok (.invokevirtual 125, 3) := by decide +kernel
theorem dL_law_970 : decode cL_law 970 = .ok (.if_icmp .eq 74, 3) := by decide +kernel
theorem dL_law_973 : decode cL_law 973 = .ok (.iconst 0, 1) := by decide +kernel
theorem dL_law_974 : decode cL_law 974 = .ok (.ireturn, 1) := by decide +kernel
theorem dL_law_975 : decode cL_law 975 = .ok (.aload_n 1, 1) := by decide +kernel
theorem dL_law_976 : decode cL_law 976 = .ok (.aload_n 0, 1) := by decide +kernel
theorem dL_law_977 : decode cL_law 977 = .ok (.iload_n 3, 1) := by decide +kernel
theorem dL_law_978 : decode cL_law 978 = .ok (.iconst 1, 1) := by decide +kernel
theorem dL_law_979 : decode cL_law 979 = .ok (.iadd, 1) := by decide +kernel
theorem dL_law_980 : decode cL_law 980 = .ok (.iaload, 1) := by decide +kernel
theorem dL_law_981 : decode cL_law 981 = .ok (.invokevirtual 126, 3) := by decide +kernel
theorem dL_law_984 : decode cL_law 984 = .ok (.aload_n 2, 1) := by decide +kernel
theorem dL_law_985 : decode cL_law 985 = .ok (.aload_n 0, 1) := by decide +kernel
theorem dL_law_986 : decode cL_law 986 = .ok (.iload_n 3, 1) := by decide +kernel
theorem dL_law_987 : decode cL_law 987 = .ok (.iconst 1, 1) := by decide +kernel
theorem dL_law_988 : decode cL_law 988 = .ok (.iadd, 1) := by decide +kernel
theorem dL_law_989 : decode cL_law 989 = .ok (.iaload, 1) := by decide +kernel
theorem dL_law_990 : decode cL_law 990 = .ok (.invokevirtual 129, 3) := by decide +kernel
theorem dL_law_993 : decode cL_law 993 = .ok (.if_icmp .eq 51, 3) := by decide +kernel
theorem dL_law_996 : decode cL_law 996 = .ok (.iconst 0, 1) := by decide +kernel
theorem dL_law_997 : decode cL_law 997 = .ok (.ireturn, 1) := by decide +kernel
theorem dL_law_998 : decode cL_law 998 = .ok (.aload_n 1, 1) := by decide +kernel
theorem dL_law_999 : decode cL_law 999 = .ok (.aload_n 0, 1) := by decide +kernel
theorem dL_law_1000 : decode cL_law 1000 = .ok (.iload_n 3, 1) := by decide +kernel
theorem dL_law_1001 : decode cL_law 1001 = .ok (.iconst 1, 1) := by decide +kernel
theorem dL_law_1002 : decode cL_law 1002 = .ok (.iadd, 1) := by decide +kernel
theorem dL_law_1003 : decode cL_law 1003 = .ok (.iaload, 1) := by decide +kernel
theorem dL_law_1004 : decode cL_law 1004 = .ok (.invokevirtual 130, 3) := by decide +kernel
theorem dL_law_1007 : decode cL_law 1007 = .ok (.aload_n 2, 1) := by decide +kernel
theorem dL_law_1008 : decode cL_law 1008 = .ok (.aload_n 0, 1) := by decide +kernel
theorem dL_law_1009 : decode cL_law 1009 = .ok (.iload_n 3, 1) := by decide +kernel
theorem dL_law_1010 : decode cL_law 1010 = .ok (.iconst 1, 1) := by decide +kernel
theorem dL_law_1011 : decode cL_law 1011 = .ok (.iadd, 1) := by decide +kernel
theorem dL_law_1012 : decode cL_law 1012 = .ok (.iaload, 1) := by decide +kernel
theorem dL_law_1013 : decode cL_law 1013 = .ok (.invokevirtual 133, 3) := by decide +kernel
theorem dL_law_1016 : decode cL_law 1016 = .ok (.if_icmp .eq 28, 3) := by decide +kernel
theorem dL_law_1019 : decode cL_law 1019 = .ok (.iconst 0, 1) := by decide +kernel
theorem dL_law_1020 : decode cL_law 1020 = .ok (.ireturn, 1) := by decide +kernel
theorem dL_law_1021 : decode cL_law 1021 = .ok (.aload_n 1, 1) := by decide +kernel
theorem dL_law_1022 : decode cL_law 1022 = .ok (.aload_n 0, 1) := by decide +kernel
theorem dL_law_1023 : decode cL_law 1023 = .ok (.iload_n 3, 1) := by decide +kernel
theorem dL_law_1024 : decode cL_law 1024 = .ok (.iconst 1, 1) := by decide +kernel
theorem dL_law_1025 : decode cL_law 1025 = .ok (.iadd, 1) := by decide +kernel
theorem dL_law_1026 : decode cL_law 1026 = .ok (.iaload, 1) := by decide +kernel
theorem dL_law_1027 : decode cL_law 1027 = .ok (.invokevirtual 134, 3) := by decide +kernel
theorem dL_law_1030 : decode cL_law 1030 = .ok (.aload_n 2, 1) := by decide +kernel
theorem dL_law_1031 : decode cL_law 1031 = .ok (.aload_n 0, 1) := by decide +kernel
theorem dL_law_1032 : decode cL_law 1032 = .ok (.iload_n 3, 1) := by decide +kernel
theorem dL_law_1033 : decode cL_law 1033 = .ok (.iconst 1, 1) := by decide +kernel
theorem dL_law_1034 : decode cL_law 1034 = .ok (.iadd, 1) := by decide +kernel
theorem dL_law_1035 : decode cL_law 1035 = .ok (.iaload, 1) := by decide +kernel
theorem dL_law_1036 : decode cL_law 1036 = .ok (.invokevirtual 137, 3) := by decide +kernel
theorem dL_law_1039 : decode cL_law 1039 = .ok (.if_icmp .eq 5, 3) := by decide +kernel
theorem dL_law_1042 : decode cL_law 1042 = .ok (.iconst 0, 1) := by decide +kernel
theorem dL_law_1043 : decode cL_law 1043 = .ok (.ireturn, 1) := by decide +kernel
theorem dL_law_1044 : decode cL_law 1044 = .ok (.iinc 3 4, 3) := by decide +kernel
theorem dL_law_1047 : decode cL_law 1047 = .ok (.goto (-1029), 3) := by decide +kernel
theorem dL_law_1050 : decode cL_law 1050 = .ok (.iconst 1, 1) := by decide +kernel
theorem dL_law_1051 : decode cL_law 1051 = .ok (.ireturn, 1) := by decide +kernel
end
section
/-! what a method that reads says (RdM), what one that writes says (WrM): their starts, their ends, their calls -/
abbrev KK (D : va_G) (cI cZ : ClassId) (U : State) : Prop := va_K D vwCl [(cI, .int), (cZ, .boolean)] U
abbrev rmF (fr lo : Nat) : Jvm.Room := { frames := fr, cells := 0, slots := 0, locals := lo }
def RdM (l : Launch) (y : MethodName) (ws : List Cond) (fr lo : Nat) (D : va_G) (cI cZ : ClassId) (V : va_W) (av : List Value) (r : Int32) : Prop :=
  Met l y ws (rmF fr lo) (va_Pc av (fun U => va_P D vwCl V U.heap ∧ KK D cI cZ U)) (vp_Si (fun x => x = r)) 0 0 (fun _ => False)
/-- a method that answers with a cell of the world, and reads alone -/
def RdA (l : Launch) (y : MethodName) (ws : List Cond) (fr lo : Nat) (D : va_G) (cI cZ : ClassId) (V : va_W) (av : List Value) (r : Nat) : Prop :=
  Met l y ws (rmF fr lo) (va_Pc av (fun U => va_P D vwCl V U.heap ∧ KK D cI cZ U)) (fun _ st o t => o = .returned (some (.ref r)) ∧ t.heap = st.heap) 0 0 (fun _ => False)
abbrev Wr0 (p : Program) (l : Launch) (e : Env) (ws : List Cond) (fr lo : Nat) (s : State) (m : MethodId) (av : List Value) (below : List Frame) (meth : Method) (c : Code) (r : Int32) (g : JFrame) : Prop :=
  W p l e (headSpec ws (rmF fr lo)).room s m av.toArray below meth c s.heap [] 0 0 (MQ below (vp_Si (fun x => x = r)) av.toArray s 0 0 (fun _ => False)) g
abbrev Wa0 (p : Program) (l : Launch) (e : Env) (ws : List Cond) (fr lo : Nat) (s : State) (m : MethodId) (av : List Value) (below : List Frame) (meth : Method) (c : Code) (r : Nat) (g : JFrame) : Prop :=
  W p l e (headSpec ws (rmF fr lo)).room s m av.toArray below meth c s.heap [] 0 0 (MQ below (fun _ st o t => o = .returned (some (.ref r)) ∧ t.heap = st.heap) av.toArray s 0 0 (fun _ => False)) g
abbrev adr (V : va_W) : Nat → Prop := fun q => ∃ (k : Nat) (e : va_E), V[k]? = some (q, e)
abbrev wrQ (D : va_G) (V V' : va_W) (r : Option Value) : Array Value → State → Outcome → State → Prop := fun _ st o t => o = .returned r ∧ va_P D vwCl V' t.heap ∧ va_F (adr V) st t
def WrM (l : Launch) (y : MethodName) (ws : List Cond) (fr lo : Nat) (D : va_G) (cI cZ : ClassId) (V V' : va_W) (av : List Value) (r : Option Value) : Prop :=
  Met l y ws (rmF fr lo) (va_Pc av (fun U => va_P D vwCl V U.heap ∧ KK D cI cZ U ∧ va_D (fun _ => True) V)) (wrQ D V V' r) 0 0 (adr V)
abbrev Ww0 (p : Program) (l : Launch) (e : Env) (ws : List Cond) (fr lo : Nat) (s : State) (m : MethodId) (av : List Value) (below : List Frame) (meth : Method) (c : Code) (D : va_G) (V V' : va_W) (r : Option Value) (H : Heap) (locs : List Loc) (g : JFrame) : Prop :=
  W p l e (headSpec ws (rmF fr lo)).room s m av.toArray below meth c H locs 0 0 (MQ below (wrQ D V V' r) av.toArray s 0 0 (adr V)) g
theorem RdM.of {l : Launch} {y : MethodName} {ws ws' : List Cond} {fr lo : Nat} {D : va_G} {cI cZ : ClassId} {V : va_W} {av : List Value} {r : Int32} {cc : ByteArray} {maxL : Nat} {ret : Option FieldType}
    (hy : plainName y.cls = true) (hw : ws = Cond.code y cc maxL ret :: ws') (hlen : (lg_sl av).length ≤ maxL)
    (body : ∀ (p : Program) (e : Env) (s : State) (m : MethodId) (below : List Frame) (meth : Method) (c : Code), p.tables.exec = Jvm.exec → c.code = cc → meth.sig.returnType = ret → c.maxLocals = maxL → s.vm.findClass y.cls = some m.cls → (∀ w ∈ ws, w.before av.toArray s = true) → meth.locks = false → va_P D vwCl V s.heap → KK D cI cZ s → ∀ ls, lv_has ls maxL (lv_args 0 av) → Wr0 p l e ws fr lo s m av below meth c r (F0 m 0 ls [])) : RdM l y ws fr lo D cI cZ V av r := by
  refine Met.ofW (cc := cc) (maxL := maxL) (ret := ret) hy hw ?_
  intro p e s m args below meth c s₁ B hml hv
  obtain ⟨rfl, hP, hK⟩ := hv
  rw [lg_entry_eq]
  exact body p e s m below meth c B.exec B.bytes B.returns hml (findClass_of_methodNamed B.named) (atoms_spec (ws := ws) B.pre) B.notSynchronized hP hK _ (lv_entry av hlen)
theorem RdA.of {l : Launch} {y : MethodName} {ws ws' : List Cond} {fr lo : Nat} {D : va_G} {cI cZ : ClassId} {V : va_W} {av : List Value} {r : Nat} {cc : ByteArray} {maxL : Nat} {ret : Option FieldType}
    (hy : plainName y.cls = true) (hw : ws = Cond.code y cc maxL ret :: ws') (hlen : (lg_sl av).length ≤ maxL)
    (body : ∀ (p : Program) (e : Env) (s : State) (m : MethodId) (below : List Frame) (meth : Method) (c : Code), p.tables.exec = Jvm.exec → c.code = cc → meth.sig.returnType = ret → c.maxLocals = maxL → s.vm.findClass y.cls = some m.cls → (∀ w ∈ ws, w.before av.toArray s = true) → meth.locks = false → va_P D vwCl V s.heap → KK D cI cZ s → ∀ ls, lv_has ls maxL (lv_args 0 av) → Wa0 p l e ws fr lo s m av below meth c r (F0 m 0 ls [])) : RdA l y ws fr lo D cI cZ V av r := by
  refine Met.ofW (cc := cc) (maxL := maxL) (ret := ret) hy hw ?_
  intro p e s m args below meth c s₁ B hml hv
  obtain ⟨rfl, hP, hK⟩ := hv
  rw [lg_entry_eq]
  exact body p e s m below meth c B.exec B.bytes B.returns hml (findClass_of_methodNamed B.named) (atoms_spec (ws := ws) B.pre) B.notSynchronized hP hK _ (lv_entry av hlen)
theorem WrM.of {l : Launch} {y : MethodName} {ws ws' : List Cond} {fr lo : Nat} {D : va_G} {cI cZ : ClassId} {V V' : va_W} {av : List Value} {r : Option Value} {cc : ByteArray} {maxL : Nat} {ret : Option FieldType}
    (hy : plainName y.cls = true) (hw : ws = Cond.code y cc maxL ret :: ws') (hlen : (lg_sl av).length ≤ maxL)
    (body : ∀ (p : Program) (e : Env) (s : State) (m : MethodId) (below : List Frame) (meth : Method) (c : Code), p.tables.exec = Jvm.exec → c.code = cc → meth.sig.returnType = ret → c.maxLocals = maxL → s.vm.findClass y.cls = some m.cls → (∀ w ∈ ws, w.before av.toArray s = true) → meth.locks = false → va_P D vwCl V s.heap → KK D cI cZ s → va_D (adr V) V → va_S (adr V) s.heap s.heap [] → ∀ ls, lv_has ls maxL (lv_args 0 av) → Ww0 p l e ws fr lo s m av below meth c D V V' r s.heap [] (F0 m 0 ls [])) : WrM l y ws fr lo D cI cZ V V' av r := by
  refine Met.ofW (cc := cc) (maxL := maxL) (ret := ret) hy hw ?_
  intro p e s m args below meth c s₁ B hml hv
  obtain ⟨rfl, hP, hK, hD⟩ := hv
  rw [lg_entry_eq]
  exact body p e s m below meth c B.exec B.bytes B.returns hml (findClass_of_methodNamed B.named) (atoms_spec (ws := ws) B.pre) B.notSynchronized hP hK ⟨hD.1, fun k q hk => ⟨k, q.2, hk⟩⟩ va_S.rf _ (lv_entry av hlen)
def bI (b : Bool) : Int32 := cond b 1 0
theorem bI_nar (b : Bool) : narrow .boolean (.int (bI b)) = .int (bI b) := by cases b <;> rfl
theorem bI_vnar (b : Bool) : vp_nar .boolean (bI b) = bI b := by cases b <;> rfl
theorem bI_0 {b : Bool} (h : bI b = 0) : b = false := by cases b with
  | false => rfl
  | true => exact absurd h (by decide)
theorem bI_1 {b : Bool} (h : ¬ bI b = 0) : b = true := by cases b with
  | true => rfl
  | false => exact absurd rfl h
section FR
variable {p : Program} {l : Launch} {e : Env} {R : Jvm.Room} {s : State} {m : MethodId} {args : Array Value} {below : List Frame} {meth : Method} {c : Code} {H : Heap} {locs : List Loc} {cells slots : Nat} {Q : State → Prop}
variable {ws : List Cond} {fr lo : Nat} {av : List Value} {r : Int32} {cc : ByteArray} {pc : Nat} {ls : Array Slot} {rest st0 : List Value} {D : va_G} {cI cZ : ClassId} {V V' : va_W} {A : Nat → Prop} {H0 : Heap}
theorem rd_i {v : Int32} (hx : p.tables.exec = Jvm.exec) (hb : c.code = cc) (hr : meth.sig.returnType = some .int) (hlocks : meth.locks = false) (hv : v = r) (hdg : decode cc pc = .ok (.ireturn, 1)) : Wr0 p l e ws fr lo s m av below meth c r (F0 m pc ls [.int v]) :=
  W.iret hx hb hr (fun t ht _ => ⟨v, rfl, hv, ht⟩) (fun _ h => by cases h) hdg hlocks
theorem rd_z {v : Int32} {b : Bool} (hx : p.tables.exec = Jvm.exec) (hb : c.code = cc) (hr : meth.sig.returnType = some .boolean) (hlocks : meth.locks = false) (hv : v = bI b) (hdg : decode cc pc = .ok (.ireturn, 1)) : Wr0 p l e ws fr lo s m av below meth c (bI b) (F0 m pc ls [.int v]) :=
  W.zret hx hb hr (by rw [hv]; exact bI_nar b) (fun t ht _ => ⟨v, rfl, hv, ht⟩) (fun _ h => by cases h) hdg hlocks
theorem rd_a {v r : Nat} {n : String} (hx : p.tables.exec = Jvm.exec) (hb : c.code = cc) (hr : meth.sig.returnType = some (.object n)) (hlocks : meth.locks = false) (hv : v = r) (hdg : decode cc pc = .ok (.areturn, 1)) : Wa0 p l e ws fr lo s m av below meth c r (F0 m pc ls [.ref v]) :=
  W.aret hx hb hr (Or.inl ⟨n, rfl⟩) (Or.inr ⟨v, rfl⟩) (fun t ht _ => ⟨by rw [hv], ht⟩) (fun _ h => by cases h) hdg hlocks
theorem wr_i {v r : Int32} (hx : p.tables.exec = Jvm.exec) (hb : c.code = cc) (hr : meth.sig.returnType = some .int) (hlocks : meth.locks = false) (hP : va_P D vwCl V' H) (hS : va_S (adr V) s.heap H locs) (hv : v = r) (hdg : decode cc pc = .ok (.ireturn, 1)) : Ww0 p l e ws fr lo s m av below meth c D V V' (some (.int r)) H locs (F0 m pc ls [.int v]) :=
  W.iret hx hb hr (fun t ht _ => ⟨by rw [hv], by rw [ht]; exact hP, hS.F ht⟩) hS.2.2 hdg hlocks
theorem wr_v (hx : p.tables.exec = Jvm.exec) (hb : c.code = cc) (hr : meth.sig.returnType = none) (hlocks : meth.locks = false) (hP : va_P D vwCl V' H) (hS : va_S (adr V) s.heap H locs) (hdg : decode cc pc = .ok (.return_, 1)) : Ww0 p l e ws fr lo s m av below meth c D V V' none H locs (F0 m pc ls []) :=
  W.vret hx hb hr (fun t ht _ => ⟨rfl, by rw [ht]; exact hP, hS.F ht⟩) hS.2.2 hdg hlocks
variable {y : MethodName} {wsc Ts : List Cond} {frc loc : Nat} {Vc Vc' V1 : va_W} {As : List Value} {C : String} {T : u_T} {N ci n nL maxL index b : Nat} {fs : List Value} {own : String} {bytes : ByteArray} {ret : Option FieldType} {lv : List (Nat × Value)}
theorem rd_bl {av : List Value} : FrameBlind (va_Pc av (fun U => va_P D vwCl V U.heap ∧ KK D cI cZ U)) := fun a U g mk q => by
  obtain ⟨q0, qP, qK⟩ := q
  exact ⟨q0, qP, va_K.moved (u := U) (U := U.calling g mk a) (Vm.Alike.refl U.vm) qK⟩
theorem wr_bl {av : List Value} : FrameBlind (va_Pc av (fun U => va_P D vwCl V U.heap ∧ KK D cI cZ U ∧ va_D (fun _ => True) V)) := fun a U g mk q => by
  obtain ⟨q0, qP, qK, qD⟩ := q
  exact ⟨q0, qP, va_K.moved (u := U) (U := U.calling g mk a) (Vm.Alike.refl U.vm) qK, qD⟩
/-- a call of a method that reads -/
theorem rd_call {r : Int32} (S : CallFix p m c cc nL s args Ts own) (hM : RdM l y wsc frc loc D cI cZ Vc (.ref b :: As) r) (cw : CallW R s args own C index y bytes maxL ret wsc (rmF frc loc) 0 0 n) (hP : va_P D vwCl Vc H) (hK : KK D cI cZ s) (he : Vc[0]? = some (b, .inr (ci, fs))) (hc : vwCl[ci]? = some (C, T, N)) (hn : As.length = n) (hl : lv_has ls nL lv) (hst : st0 = As.reverse ++ .ref b :: rest) (hW : (rest.map fun v => v.category).sum ≤ 8) (hdg : decode cc pc = .ok (.invokevirtual index, 3)) (hf : cells ≤ R.cells ∧ slots ≤ R.slots)
    (kk : W p l e R s m args below meth c H locs cells slots Q (F0 m (pc + 3) ls (.int r :: rest))) : W p l e R s m args below meth c H locs cells slots Q (F0 m pc ls st0) :=
  vp_callSi (W.runV S hM cw ⟨rd_bl, va_recv hK hP hc he, fun U hU hW => ⟨rfl, by rw [hU]; exact hP, va_K.moved hW.alike hK⟩⟩ rfl hn hl.1 hst (lv_room hW) hdg hf) (fun _ h => h ▸ kk)
/-- a call of a static method that reads nothing -/
theorem rd_callS {r : Int32} (S : CallFix p m c cc nL s args Ts own) (hM : RdM l y wsc frc loc D cI cZ [] As r) (cw : CallB R s args own index y bytes maxL ret wsc (rmF frc loc) 0 0 n ∧ (Cond.static y).before args s = true) (hK : KK D cI cZ s) (hn : As.length = n) (hl : lv_has ls nL lv) (hst : st0 = As.reverse ++ rest) (hW : (rest.map fun v => v.category).sum ≤ 8) (hdg : decode cc pc = .ok (.invokestatic index, 3)) (hf : cells ≤ R.cells ∧ slots ≤ R.slots)
    (kk : W p l e R s m args below meth c H locs cells slots Q (F0 m (pc + 3) ls (.int r :: rest))) : W p l e R s m args below meth c H locs cells slots Q (F0 m pc ls st0) :=
  vp_callSi (W.runS S hM cw ⟨rd_bl, fun U hU hW => ⟨rfl, fun k q h => by simp at h, va_K.moved hW.alike hK⟩⟩ rfl hn hl.1 hst (lv_room hW) hdg hf) (fun _ h => h ▸ kk)
/-- a call that answers with a cell, and reads alone -/
theorem rd_calla {r : Nat} (S : CallFix p m c cc nL s args Ts own) (hM : RdA l y wsc frc loc D cI cZ Vc (.ref b :: As) r) (cw : CallW R s args own C index y bytes maxL ret wsc (rmF frc loc) 0 0 n) (hP : va_P D vwCl Vc H) (hK : KK D cI cZ s) (he : Vc[0]? = some (b, .inr (ci, fs))) (hc : vwCl[ci]? = some (C, T, N)) (hn : As.length = n) (hl : lv_has ls nL lv) (hst : st0 = As.reverse ++ .ref b :: rest) (hW : (rest.map fun v => v.category).sum ≤ 8) (hdg : decode cc pc = .ok (.invokevirtual index, 3)) (hf : cells ≤ R.cells ∧ slots ≤ R.slots)
    (kk : W p l e R s m args below meth c H locs cells slots Q (F0 m (pc + 3) ls (.ref r :: rest))) : W p l e R s m args below meth c H locs cells slots Q (F0 m pc ls st0) := by
  intro T9 hT X
  obtain ⟨v, st₀, t, T', L, h0, X', hL, e1, ⟨hv, hh⟩, st⟩ := (W.runV S hM cw ⟨rd_bl, va_recv hK hP hc he, fun U hU hW => ⟨rfl, by rw [hU]; exact hP, va_K.moved hW.alike hK⟩⟩ rfl hn hl.1 hst (lv_room hW) hdg hf) T9 hT X
  cases hv
  obtain ⟨t2, a1, b1⟩ := kk T' (by rw [e1, hh, h0]) (Stand.forget X' (fun q h => (hL q h).elim))
  exact ⟨t2, st t2 a1, b1⟩
theorem vd_same {A : Nat → Prop} {V V1 : va_W} (hD : va_D A V) (h : V1.map Prod.fst = V.map Prod.fst) : va_D A V1 := by
  have key : ∀ (k : Nat) (q : Nat × va_E), V1[k]? = some q → ∃ e, V[k]? = some (q.1, e) := by
    intro k q hq
    have h1 : (V1.map Prod.fst)[k]? = some q.1 := by rw [List.getElem?_map, hq]; rfl
    rw [h, List.getElem?_map] at h1
    cases hv : V[k]? with
    | none => rw [hv] at h1; cases h1
    | some z =>
      rw [hv] at h1
      have h2 : z.1 = q.1 := Option.some.inj h1
      exact ⟨z.2, by rw [← h2]⟩
  refine ⟨fun i j p q hp hq hpq => ?_, fun k q hq => ?_⟩
  · obtain ⟨e1, h1⟩ := key i p hp
    obtain ⟨e2, h2⟩ := key j q hq
    exact hD.1 i j _ _ h1 h2 hpq
  · obtain ⟨e1, h1⟩ := key k q hq
    exact hD.2 k (q.1, e1) h1
/-- behind a call: the caller's other cells, and the callee's new ones -/
theorem wr_world {V0 : va_W} {A0 : Nat → Prop} {H1 : Heap} (hP : va_P D vwCl V0 H) (hD : va_D A0 V0) (isC isR perm : List Nat) (hC : isC.map (fun i => V0[i]?) = Vc.map some) (hdis : ∀ i ∈ isR, i ∉ isC) (hpm : perm.filterMap (fun i => (isR.filterMap (fun i => V0[i]?) ++ Vc')[i]?) = V1)
    (hk : ∀ q : Nat, q < H.size → ¬ adr Vc q → H1[q]? = H[q]?) (hP1 : va_P D vwCl Vc' H1) : va_P D vwCl V1 H1 := by
  have at' : ∀ {is : List Nat} {w : va_W}, is.map (fun i => V0[i]?) = w.map some → ∀ (k : Nat) (q : Nat × va_E), w[k]? = some q → ∃ i, is[k]? = some i ∧ V0[i]? = some q := by
    intro is w hs k q hq
    have h1 : (is.map (fun i => V0[i]?))[k]? = some (some q) := by rw [hs, List.getElem?_map, hq]; rfl
    rw [List.getElem?_map] at h1
    cases hi : is[k]? with
    | none => rw [hi] at h1; cases h1
    | some i => rw [hi] at h1; exact ⟨i, rfl, Option.some.inj h1⟩
  have hW : va_P D vwCl (isR.filterMap (fun i => V0[i]?) ++ Vc') H1 := by
    refine va_P.app (fun k q hq => ?_) hP1
    obtain ⟨i, h1, h2⟩ := List.mem_filterMap.mp (List.mem_of_getElem? hq)
    refine (hP i q h2).kept (hk q.1 ((hP i q h2).lt) ?_)
    rintro ⟨k2, e9, h⟩
    obtain ⟨j, h3, h4⟩ := at' hC k2 (q.1, e9) h
    have hij := hD.1 i j q (q.1, e9) h2 h4 rfl
    subst hij
    exact hdis i h1 (List.mem_of_getElem? h3)
  exact hW.sub perm hpm
theorem wr_free {V0 : va_W} {A0 : Nat → Prop} (hD : va_D A0 V0) (isC : List Nat) (hC : isC.map (fun i => V0[i]?) = Vc.map some) : ∀ q, adr Vc q → A0 q := by
  rintro q ⟨k, e9, h⟩
  have h1 : (isC.map (fun i => V0[i]?))[k]? = some (some (q, e9)) := by rw [hC, List.getElem?_map, h]; rfl
  rw [List.getElem?_map] at h1
  cases hi : isC[k]? with
  | none => rw [hi] at h1; cases h1
  | some i => rw [hi] at h1; exact hD.2 i (q, e9) (Option.some.inj h1)
/-- a call of a method that writes -/
theorem wr_call {V0 : va_W} {A0 : Nat → Prop} {ro : Option Value} (S : CallFix p m c cc nL s args Ts own) (hM : WrM l y wsc frc loc D cI cZ Vc Vc' (.ref b :: As) ro) (cw : CallW R s args own C index y bytes maxL ret wsc (rmF frc loc) 0 0 n) (hP : va_P D vwCl V0 H) (hK : KK D cI cZ s) (hD : va_D A0 V0) (hS : va_S A0 H0 H locs) (isC isR perm : List Nat) (hC : isC.map (fun i => V0[i]?) = Vc.map some) (hnc : va_nd isC = true) (hdis : ∀ i ∈ isR, i ∉ isC) (hpm : perm.filterMap (fun i => (isR.filterMap (fun i => V0[i]?) ++ Vc')[i]?) = V1) (hsame : V1.map Prod.fst = V0.map Prod.fst)
    (he : Vc[0]? = some (b, .inr (ci, fs))) (hc : vwCl[ci]? = some (C, T, N)) (hn : As.length = n) (hl : lv_has ls nL lv) (hst : st0 = As.reverse ++ .ref b :: rest) (hW : (rest.map fun v => v.category).sum ≤ 8) (hdg : decode cc pc = .ok (.invokevirtual index, 3)) (hf : cells ≤ R.cells ∧ slots ≤ R.slots)
    (kk : ∀ (H1 : Heap) (locs1 : List Loc), va_P D vwCl V1 H1 → va_D A0 V1 → va_S A0 H0 H1 locs1 → W p l e R s m args below meth c H1 locs1 cells slots Q (F0 m (pc + 3) ls (ro.toList ++ rest))) : W p l e R s m args below meth c H locs cells slots Q (F0 m pc ls st0) := by
  have hDc : va_D A0 Vc := hD.sub isC hnc hC
  have hPc : va_P D vwCl Vc H := hP.sub isC (by
    have : ∀ (is : List Nat) (w : va_W), is.map (fun i => V0[i]?) = w.map some → is.filterMap (fun i => V0[i]?) = w := by
      intro is
      induction is with
      | nil => intro w hw; cases w with
        | nil => rfl
        | cons _ _ => cases hw
      | cons i is ih => intro w hw; cases w with
        | nil => cases hw
        | cons q w =>
          have h1 : V0[i]? = some q := (List.cons.inj hw).1
          rw [List.filterMap_cons, h1]
          exact congrArg (q :: ·) (ih w (List.cons.inj hw).2)
    exact this isC Vc hC)
  have hA : ∀ q, adr Vc q → A0 q := wr_free hD isC hC
  intro T9 hT X
  obtain ⟨v, st₀, t, T', L, h0, X', hL, e1, ⟨hv, hp, hz, hk⟩, st⟩ := (W.runV S hM cw ⟨wr_bl, va_recv hK hPc hc he, fun U hU hW => ⟨rfl, by rw [hU]; exact hPc, va_K.moved hW.alike hK, hDc.weaken (fun _ _ _ _ => trivial)⟩⟩ rfl hn hl.1 hst (lv_room hW) hdg hf) T9 hT X
  cases hv
  rw [h0] at hz hk
  obtain ⟨t2, a1, b1⟩ := kk T'.heap (locs ++ L) (by rw [e1]; exact wr_world hP hD isC isR perm hC hdis hpm (fun q h1 h2 => hk q h1 h2) hp) (vd_same hD hsame)
    ⟨Nat.le_trans hS.1 (by rw [e1]; exact hz), fun q h1 h2 => by rw [e1, hk q (Nat.lt_of_lt_of_le h1 hS.1) (fun z => h2 (hA q z))]; exact hS.2.1 q h1 h2, fun q hq => by
      rcases List.mem_append.mp hq with h | h
      · exact hS.2.2 q h
      · exact hA _ (hL q h)⟩ T' rfl X'
  exact ⟨t2, st t2 a1, b1⟩
/-- array rows at a place that is a number -/
theorem ar_i {tys : List (ClassId × FieldType)} {a k : Nat} {f : Nat → Int32} (hx : p.tables.exec = Jvm.exec) (hb : c.code = cc) (hK : KK D cI cZ s) (hP : va_P D vwCl V H) (q0 : Nat) (ha : V[q0]? = some (a, .inl (cI, n, .inl f))) (hj : k < n) (hn : n < 2 ^ 31) (hdg : decode cc pc = .ok (.iaload, 1))
    (kk : W p l e R s m args below meth c H locs cells slots Q (F0 m (pc + 1) ls (.int (f k) :: rest))) : W p l e R s m args below meth c H locs cells slots Q (F0 m pc ls (.int (nI k) :: .ref a :: rest)) :=
  va_iald hx hb hK hP q0 0 ha rfl (vp_in_nI hj hn) hdg (by rw [nI_clamp (Nat.lt_trans hj hn)]; exact kk)
theorem ar_z {a k : Nat} {f : Nat → Int32} (hx : p.tables.exec = Jvm.exec) (hb : c.code = cc) (hK : KK D cI cZ s) (hP : va_P D vwCl V H) (q0 : Nat) (ha : V[q0]? = some (a, .inl (cZ, n, .inl f))) (hj : k < n) (hn : n < 2 ^ 31) (hdg : decode cc pc = .ok (.baload, 1))
    (kk : W p l e R s m args below meth c H locs cells slots Q (F0 m (pc + 1) ls (.int (f k) :: rest))) : W p l e R s m args below meth c H locs cells slots Q (F0 m pc ls (.int (nI k) :: .ref a :: rest)) :=
  va_zald hx hb hK hP q0 1 ha rfl (vp_in_nI hj hn) hdg (by rw [nI_clamp (Nat.lt_trans hj hn)]; exact kk)
theorem ar_is {a k : Nat} {f : Nat → Int32} {x : Int32} (hx : p.tables.exec = Jvm.exec) (hb : c.code = cc) (hK : KK D cI cZ s) (hP : va_P D vwCl V H) (hD : va_D A V) (hS : va_S A H0 H locs) (q0 : Nat) (ha : V[q0]? = some (a, .inl (cI, n, .inl f))) (hj : k < n) (hn : n < 2 ^ 31) (hdg : decode cc pc = .ok (.iastore, 1))
    (kk : ∀ (H1 : Heap) (locs1 : List Loc), va_P D vwCl (V.set q0 (a, .inl (cI, n, .inl (upd f k x)))) H1 → va_D A (V.set q0 (a, .inl (cI, n, .inl (upd f k x)))) → va_S A H0 H1 locs1 → W p l e R s m args below meth c H1 locs1 cells slots Q (F0 m (pc + 1) ls rest)) : W p l e R s m args below meth c H locs cells slots Q (F0 m pc ls (.int x :: .int (nI k) :: .ref a :: rest)) :=
  va_iast hx hb hK hP hD hS q0 0 ha rfl (vp_in_nI hj hn) hdg (by rw [nI_clamp (Nat.lt_trans hj hn)]; exact kk)
theorem ar_zs {a k : Nat} {f : Nat → Int32} {x : Int32} (hx : p.tables.exec = Jvm.exec) (hb : c.code = cc) (hK : KK D cI cZ s) (hP : va_P D vwCl V H) (hD : va_D A V) (hS : va_S A H0 H locs) (q0 : Nat) (ha : V[q0]? = some (a, .inl (cZ, n, .inl f))) (hj : k < n) (hn : n < 2 ^ 31) (hnar : vp_nar .boolean x = x) (hdg : decode cc pc = .ok (.bastore, 1))
    (kk : ∀ (H1 : Heap) (locs1 : List Loc), va_P D vwCl (V.set q0 (a, .inl (cZ, n, .inl (upd f k x)))) H1 → va_D A (V.set q0 (a, .inl (cZ, n, .inl (upd f k x)))) → va_S A H0 H1 locs1 → W p l e R s m args below meth c H1 locs1 cells slots Q (F0 m (pc + 1) ls rest)) : W p l e R s m args below meth c H locs cells slots Q (F0 m pc ls (.int x :: .int (nI k) :: .ref a :: rest)) :=
  va_zast hx hb hK hP hD hS q0 1 ha rfl (vp_in_nI hj hn) hdg (by rw [nI_clamp (Nat.lt_trans hj hn), hnar]; exact kk)
end FR
/-- an array's contents matter below its length alone -/
theorem ar_eq {cA : ClassId} {n : Nat} {f g : Nat → Int32} (h : ∀ j, j < n → f j = g j) : vp_cell cA (n, .inl f) = vp_cell cA (n, .inl g) := by
  rw [vp_cell_i, vp_cell_i]
  unfold arrV
  congr 1
  apply Array.ext
  · simp
  · intro i h1 h2
    simp only [Array.getElem_ofFn]
    rw [h i (by simpa using h1)]
theorem ar_sw {D : va_G} {V : va_W} {H : Heap} (hP : va_P D vwCl V H) (q0 : Nat) {a n : Nat} {cA : ClassId} {f g : Nat → Int32} (ha : V[q0]? = some (a, .inl (cA, n, .inl f))) (h : ∀ j, j < n → f j = g j) : va_P D vwCl (V.set q0 (a, .inl (cA, n, .inl g))) H := by
  intro k q hk
  by_cases e : q0 = k
  · subst e
    have hlt : q0 < V.length := (List.getElem?_eq_some_iff.mp ha).1
    rw [List.getElem?_set_self hlt] at hk
    cases hk
    show H[a]? = some (vp_cell cA (n, .inl g))
    rw [← ar_eq h]
    exact hP q0 _ ha
  · rw [List.getElem?_set_ne e] at hk
    exact hP k q hk
end
section
/-! the pure forest: p v is the parent of v, or v itself where v is a root -/
def fo_up (p : Nat → Nat) : Nat → Nat → Nat
  | 0, v => v
  | k + 1, v => fo_up p k (p v)
theorem fo_up_s (p : Nat → Nat) (k v : Nat) : fo_up p (k + 1) v = p (fo_up p k v) := by
  induction k generalizing v with
  | zero => rfl
  | succ k ih => exact ih (p v)
theorem fo_up_add (p : Nat → Nat) (a b v : Nat) : fo_up p (a + b) v = fo_up p b (fo_up p a v) := by
  induction a generalizing v with
  | zero => rw [Nat.zero_add]; rfl
  | succ a ih => rw [Nat.add_right_comm]; exact ih (p v)
theorem fo_up_root {p : Nat → Nat} {v : Nat} (h : p v = v) (k : Nat) : fo_up p k v = v := by
  induction k with
  | zero => rfl
  | succ k ih => show fo_up p k (p v) = v; rw [h]; exact ih
def fo_dF (p : Nat → Nat) : Nat → Nat → Nat
  | 0, _ => 0
  | k + 1, v => if p v = v then 0 else fo_dF p k (p v) + 1
def fo_d (p : Nat → Nat) (v : Nat) : Nat := fo_dF p 64 v
def fo_r (p : Nat → Nat) (v : Nat) : Nat := fo_up p (fo_d p v) v
def fo_ok (n : Nat) (p : Nat → Nat) : Prop := 1 ≤ n ∧ n ≤ 64 ∧ (∀ v, v < n → p v < n) ∧ (∀ v, n ≤ v → p v = v) ∧ (∀ v, p (fo_up p 63 v) = fo_up p 63 v)
theorem fo_dF_st {p : Nat → Nat} : ∀ (k v : Nat), p (fo_up p k v) = fo_up p k v → ∀ m, k ≤ m → fo_dF p m v = fo_dF p k v := by
  intro k
  induction k with
  | zero =>
    intro v h m _
    have h : p v = v := h
    cases m with
    | zero => rfl
    | succ m => show (if p v = v then 0 else fo_dF p m (p v) + 1) = 0; rw [if_pos h]
  | succ k ih =>
    intro v h m hm
    cases m with
    | zero => exact absurd hm (Nat.not_succ_le_zero k)
    | succ m =>
      show (if p v = v then 0 else fo_dF p m (p v) + 1) = (if p v = v then 0 else fo_dF p k (p v) + 1)
      rw [ih (p v) h m (Nat.le_of_succ_le_succ hm)]
theorem fo_dF_le (p : Nat → Nat) : ∀ (k v : Nat), fo_dF p k v ≤ k := by
  intro k
  induction k with
  | zero => intro v; exact Nat.le_refl 0
  | succ k ih =>
    intro v
    show (if p v = v then 0 else fo_dF p k (p v) + 1) ≤ k + 1
    by_cases h : p v = v
    · rw [if_pos h]; exact Nat.zero_le _
    · rw [if_neg h]; exact Nat.succ_le_succ (ih (p v))
theorem fo_dF_root {p : Nat → Nat} : ∀ (k v : Nat), p (fo_up p k v) = fo_up p k v → p (fo_up p (fo_dF p k v) v) = fo_up p (fo_dF p k v) v := by
  intro k
  induction k with
  | zero => intro v h; exact h
  | succ k ih =>
    intro v h
    show p (fo_up p (if p v = v then 0 else fo_dF p k (p v) + 1) v) = fo_up p (if p v = v then 0 else fo_dF p k (p v) + 1) v
    by_cases e : p v = v
    · rw [if_pos e]; exact e
    · rw [if_neg e]; exact ih (p v) h
theorem fo_ph : ∀ (n : Nat) (f : Nat → Nat), (∀ i, i ≤ n → f i < n) → ∃ i j, i < j ∧ j ≤ n ∧ f i = f j := by
  intro n
  induction n with
  | zero => intro f h; exact absurd (h 0 (Nat.le_refl 0)) (Nat.not_lt_zero _)
  | succ n ih =>
    intro f h
    by_cases e : ∃ i, i ≤ n ∧ f i = f (n + 1)
    · obtain ⟨i, hi, he⟩ := e
      exact ⟨i, n + 1, by omega, Nat.le_refl _, he⟩
    · have ne : ∀ i, i ≤ n → f i ≠ f (n + 1) := fun i hi he => e ⟨i, hi, he⟩
      obtain ⟨i, j, hij, hj, he⟩ := ih (fun i => if f i = n then f (n + 1) else f i) (by
        intro i hi
        show (if f i = n then f (n + 1) else f i) < n
        have h1 := h i (by omega)
        have h2 := h (n + 1) (Nat.le_refl _)
        have h3 := ne i hi
        by_cases e1 : f i = n
        · rw [if_pos e1]; omega
        · rw [if_neg e1]; omega)
      refine ⟨i, j, hij, by omega, ?_⟩
      have hi3 := ne i (by omega)
      have hj3 := ne j hj
      have he : (if f i = n then f (n + 1) else f i) = (if f j = n then f (n + 1) else f j) := he
      by_cases e1 : f i = n
      · by_cases e2 : f j = n
        · rw [e1, e2]
        · rw [if_pos e1, if_neg e2] at he; exact absurd he.symm hj3
      · by_cases e2 : f j = n
        · rw [if_neg e1, if_pos e2] at he; exact absurd he hi3
        · rw [if_neg e1, if_neg e2] at he; exact he
/-- it comes to a root -/
def fo_rch (p : Nat → Nat) (v : Nat) : Prop := ∃ k, p (fo_up p k v) = fo_up p k v
theorem fo_rch_s {p : Nat → Nat} {v : Nat} (h : fo_rch p (p v)) : fo_rch p v := by
  obtain ⟨k, h⟩ := h
  exact ⟨k + 1, h⟩
theorem fo_rch_0 {p : Nat → Nat} {v : Nat} (h : p v = v) : fo_rch p v := ⟨0, h⟩
theorem fo_up_lt {n : Nat} {p : Nat → Nat} (h : ∀ v, v < n → p v < n) {v : Nat} (hv : v < n) (k : Nat) : fo_up p k v < n := by
  induction k generalizing v with
  | zero => exact hv
  | succ k ih => exact ih (h v hv)
theorem fo_mk {n : Nat} {p : Nat → Nat} (h1 : 1 ≤ n) (h2 : n ≤ 64) (h3 : ∀ v, v < n → p v < n) (h4 : ∀ v, n ≤ v → p v = v) (h5 : ∀ v, v < n → fo_rch p v) : fo_ok n p := by
  refine ⟨h1, h2, h3, h4, fun v => ?_⟩
  by_cases hv : v < n
  · apply Classical.byContradiction
    intro hc
    have hnr : ∀ i, i ≤ 63 → p (fo_up p i v) ≠ fo_up p i v := by
      intro i hi he
      apply hc
      have : fo_up p 63 v = fo_up p i v := by
        rw [show 63 = i + (63 - i) by omega, fo_up_add]
        exact fo_up_root he _
      rw [this]; exact he
    obtain ⟨k, hk⟩ := h5 v hv
    obtain ⟨i, j, hij, hj, he⟩ := fo_ph n (fun i => fo_up p i v) (fun i _ => fo_up_lt h3 hv i)
    have he : fo_up p i v = fo_up p j v := he
    have per : ∀ t, fo_up p (i + t * (j - i)) v = fo_up p i v := by
      intro t
      induction t with
      | zero => rw [Nat.zero_mul]; rfl
      | succ t ih =>
        rw [show i + (t + 1) * (j - i) = (i + t * (j - i)) + (j - i) by rw [Nat.add_mul, Nat.one_mul, Nat.add_assoc], fo_up_add, ih, ← fo_up_add, show i + (j - i) = j by omega]
        exact he.symm
    have hi : i ≤ 63 := by omega
    apply hnr i hi
    rw [← per k]
    have hge : k ≤ i + k * (j - i) := by
      have : k * 1 ≤ k * (j - i) := Nat.mul_le_mul_left k (by omega)
      omega
    have e2 : fo_up p (i + k * (j - i)) v = fo_up p k v := by
      rw [show i + k * (j - i) = k + (i + k * (j - i) - k) by omega, fo_up_add]
      exact fo_up_root hk _
    rw [e2]; exact hk
  · have e := h4 v (by omega)
    rw [fo_up_root e 63]; exact e
section FO
variable {n : Nat} {p : Nat → Nat} (F : fo_ok n p)
theorem fo_lt (F : fo_ok n p) {v : Nat} (hv : v < n) (k : Nat) : fo_up p k v < n := fo_up_lt F.2.2.1 hv k
theorem fo_d_0 {v : Nat} (h : p v = v) : fo_d p v = 0 := by
  show (if p v = v then 0 else fo_dF p 63 (p v) + 1) = 0
  rw [if_pos h]
theorem fo_d_s (F : fo_ok n p) {v : Nat} (h : ¬ p v = v) : fo_d p v = fo_d p (p v) + 1 := by
  have e : fo_d p v = fo_dF p 63 (p v) + 1 := by
    show (if p v = v then 0 else fo_dF p 63 (p v) + 1) = _
    rw [if_neg h]
  rw [e]
  unfold fo_d
  rw [fo_dF_st 63 (p v) (F.2.2.2.2 (p v)) 64 (by omega)]
theorem fo_d_le (F : fo_ok n p) (v : Nat) : fo_d p v ≤ 63 := by
  unfold fo_d
  rw [fo_dF_st 63 v (F.2.2.2.2 v) 64 (by omega)]
  exact fo_dF_le p 63 v
theorem fo_d_z (F : fo_ok n p) {v : Nat} : fo_d p v = 0 ↔ p v = v := by
  refine ⟨fun h => ?_, fo_d_0⟩
  apply Classical.byContradiction
  intro hc
  have := fo_d_s F hc
  omega
theorem fo_d_up (F : fo_ok n p) (v : Nat) : ∀ i, i ≤ fo_d p v → fo_d p (fo_up p i v) = fo_d p v - i := by
  intro i
  induction i with
  | zero => intro _; rfl
  | succ i ih =>
    intro h
    have e := ih (by omega)
    rw [fo_up_s]
    have hn : ¬ p (fo_up p i v) = fo_up p i v := fun he => by
      have := (fo_d_z F).mpr he
      omega
    have := fo_d_s F hn
    omega
theorem fo_nr (F : fo_ok n p) {v i : Nat} (h : i < fo_d p v) : ¬ p (fo_up p i v) = fo_up p i v := fun he => by
  have := (fo_d_z F).mpr he
  have := fo_d_up F v i (by omega)
  omega
theorem fo_r_root (F : fo_ok n p) (v : Nat) : p (fo_r p v) = fo_r p v := by
  have := fo_d_up F v (fo_d p v) (Nat.le_refl _)
  exact (fo_d_z F).mp (by show fo_d p (fo_up p (fo_d p v) v) = 0; omega)
theorem fo_r_of {v : Nat} (h : p v = v) : fo_r p v = v := by
  unfold fo_r
  rw [fo_d_0 h]; rfl
theorem fo_r_p (F : fo_ok n p) (v : Nat) : fo_r p (p v) = fo_r p v := by
  by_cases h : p v = v
  · rw [h]
  · unfold fo_r
    rw [fo_d_s F h]; rfl
theorem fo_r_up (F : fo_ok n p) (v k : Nat) : fo_r p (fo_up p k v) = fo_r p v := by
  induction k with
  | zero => rfl
  | succ k ih => rw [fo_up_s, fo_r_p F, ih]
theorem fo_r_lt (F : fo_ok n p) {v : Nat} (hv : v < n) : fo_r p v < n := fo_lt F hv _
theorem fo_r_r (F : fo_ok n p) (v : Nat) : fo_r p (fo_r p v) = fo_r p v := fo_r_of (fo_r_root F v)
theorem fo_up_ne (F : fo_ok n p) {v i j : Nat} (hi : i ≤ fo_d p v) (hj : j ≤ fo_d p v) (h : i ≠ j) : fo_up p i v ≠ fo_up p j v := fun he => by
  have h1 := fo_d_up F v i hi
  have h2 := fo_d_up F v j hj
  rw [he] at h1
  omega
end FO
/-- p with a new parent x of k -/
def fo_set (p : Nat → Nat) (k x : Nat) : Nat → Nat := fun j => if j = k then x else p j
theorem fo_set_s (p : Nat → Nat) (k x : Nat) : fo_set p k x k = x := if_pos rfl
theorem fo_set_n (p : Nat → Nat) {k x j : Nat} (h : j ≠ k) : fo_set p k x j = p j := if_neg h
theorem fo_cut {n : Nat} {p : Nat → Nat} (F : fo_ok n p) {c : Nat} (_ : c < n) : fo_ok n (fo_set p c c) := by
  refine fo_mk F.1 F.2.1 (fun v hv => ?_) (fun v hv => ?_) (fun v _ => ?_)
  · by_cases e : v = c
    · rw [e, fo_set_s]; omega
    · rw [fo_set_n p e]; exact F.2.2.1 v hv
  · rw [fo_set_n p (by omega)]; exact F.2.2.2.1 v hv
  · have key : ∀ d w, fo_d p w = d → fo_rch (fo_set p c c) w := by
      intro d
      induction d with
      | zero =>
        intro w hw
        have e := (fo_d_z F).mp hw
        refine fo_rch_0 ?_
        by_cases e2 : w = c
        · rw [e2, fo_set_s]
        · rw [fo_set_n p e2]; exact e
      | succ d ih =>
        intro w hw
        by_cases e2 : w = c
        · exact fo_rch_0 (by rw [e2, fo_set_s])
        · refine fo_rch_s ?_
          rw [fo_set_n p e2]
          refine ih (p w) ?_
          have hn : ¬ p w = w := fun e => by have := fo_d_0 e; omega
          have := fo_d_s F hn
          omega
    exact key _ v rfl
theorem fo_link {n : Nat} {p : Nat → Nat} (F : fo_ok n p) {c u : Nat} (hc : c < n) (hu : u < n) (hr : p c = c) (hne : ¬ fo_r p u = c) : fo_ok n (fo_set p c u) := by
  have A : ∀ d w, fo_d p w = d → ¬ fo_r p w = c → fo_rch (fo_set p c u) w := by
    intro d
    induction d with
    | zero =>
      intro w hw hx
      have e := (fo_d_z F).mp hw
      have e2 : w ≠ c := fun e2 => hx (by rw [fo_r_of e, e2])
      exact fo_rch_0 (by rw [fo_set_n p e2]; exact e)
    | succ d ih =>
      intro w hw hx
      have hn : ¬ p w = w := fun e => by have := fo_d_0 e; omega
      have e2 : w ≠ c := fun e2 => hn (by rw [e2]; exact hr)
      refine fo_rch_s ?_
      rw [fo_set_n p e2]
      refine ih (p w) ?_ (by rw [fo_r_p F]; exact hx)
      have := fo_d_s F hn
      omega
  have B : fo_rch (fo_set p c u) c := fo_rch_s (by rw [fo_set_s]; exact A _ u rfl hne)
  have C : ∀ d w, fo_d p w = d → fo_rch (fo_set p c u) w := by
    intro d
    induction d with
    | zero =>
      intro w hw
      by_cases e2 : w = c
      · rw [e2]; exact B
      · exact fo_rch_0 (by rw [fo_set_n p e2]; exact (fo_d_z F).mp hw)
    | succ d ih =>
      intro w hw
      by_cases e2 : w = c
      · rw [e2]; exact B
      · refine fo_rch_s ?_
        rw [fo_set_n p e2]
        refine ih (p w) ?_
        have hn : ¬ p w = w := fun e => by have := fo_d_0 e; omega
        have := fo_d_s F hn
        omega
  refine fo_mk F.1 F.2.1 (fun v hv => ?_) (fun v hv => ?_) (fun v _ => C _ v rfl)
  · by_cases e : v = c
    · rw [e, fo_set_s]; exact hu
    · rw [fo_set_n p e]; exact F.2.2.1 v hv
  · rw [fo_set_n p (by omega)]; exact F.2.2.2.1 v hv
/-- another root: the path of v turned, its first k vertices -/
def fo_rs (p : Nat → Nat) (v : Nat) : Nat → (Nat → Nat)
  | 0 => p
  | k + 1 => fo_set (fo_rs p v k) (fo_up p k v) (fo_up p (k - 1) v)
def fo_rr (p : Nat → Nat) (v : Nat) : Nat → Nat := fo_rs p v (fo_d p v + 1)
theorem fo_rs_o (p : Nat → Nat) (v w : Nat) : ∀ k, (∀ i, i < k → w ≠ fo_up p i v) → fo_rs p v k w = p w := by
  intro k
  induction k with
  | zero => intro _; rfl
  | succ k ih =>
    intro h
    show fo_set (fo_rs p v k) (fo_up p k v) (fo_up p (k - 1) v) w = p w
    rw [fo_set_n _ (h k (Nat.lt_succ_self k))]
    exact ih (fun i hi => h i (by omega))
theorem fo_rs_at {n : Nat} {p : Nat → Nat} (F : fo_ok n p) (v : Nat) {k : Nat} (hk : k ≤ fo_d p v) : fo_rs p v k (fo_up p k v) = p (fo_up p k v) :=
  fo_rs_o p v _ k (fun i hi => fo_up_ne F hk (by omega) (by omega))
theorem fo_rs_on {n : Nat} {p : Nat → Nat} (F : fo_ok n p) (v i : Nat) : ∀ k, i < k → k ≤ fo_d p v + 1 → fo_rs p v k (fo_up p i v) = fo_up p (i - 1) v := by
  intro k
  induction k with
  | zero => intro h; exact absurd h (Nat.not_lt_zero _)
  | succ k ih =>
    intro hi hk
    show fo_set (fo_rs p v k) (fo_up p k v) (fo_up p (k - 1) v) (fo_up p i v) = _
    by_cases e : i = k
    · rw [e, fo_set_s]
    · rw [fo_set_n _ (fo_up_ne F (by omega) (by omega) e)]
      exact ih (by omega) (by omega)
theorem fo_rs_lt {n : Nat} {p : Nat → Nat} (F : fo_ok n p) {v w : Nat} (hv : v < n) (hw : w < n) (k : Nat) : fo_rs p v k w < n := by
  induction k with
  | zero => exact F.2.2.1 w hw
  | succ k ih =>
    show fo_set (fo_rs p v k) (fo_up p k v) (fo_up p (k - 1) v) w < n
    by_cases e : w = fo_up p k v
    · rw [e, fo_set_s]; exact fo_lt F hv _
    · rw [fo_set_n _ e]; exact ih
theorem fo_rr_ok {n : Nat} {p : Nat → Nat} (F : fo_ok n p) {v : Nat} (hv : v < n) : fo_ok n (fo_rr p v) := by
  have A : ∀ i, i ≤ fo_d p v → fo_rch (fo_rr p v) (fo_up p i v) := by
    intro i
    induction i with
    | zero =>
      intro _
      exact fo_rch_0 (fo_rs_on F v 0 _ (by omega) (Nat.le_refl _))
    | succ i ih =>
      intro h
      refine fo_rch_s ?_
      rw [show fo_rr p v (fo_up p (i + 1) v) = fo_up p i v from fo_rs_on F v (i + 1) _ (by omega) (Nat.le_refl _)]
      exact ih (by omega)
  have B : ∀ d w, fo_d p w = d → fo_rch (fo_rr p v) w := by
    intro d
    induction d with
    | zero =>
      intro w hw
      by_cases e : ∃ i, i ≤ fo_d p v ∧ w = fo_up p i v
      · obtain ⟨i, hi, e⟩ := e
        rw [e]; exact A i hi
      · refine fo_rch_0 ?_
        rw [show fo_rr p v w = p w from fo_rs_o p v w _ (fun i hi he => e ⟨i, by omega, he⟩)]
        exact (fo_d_z F).mp hw
    | succ d ih =>
      intro w hw
      by_cases e : ∃ i, i ≤ fo_d p v ∧ w = fo_up p i v
      · obtain ⟨i, hi, e⟩ := e
        rw [e]; exact A i hi
      · refine fo_rch_s ?_
        rw [show fo_rr p v w = p w from fo_rs_o p v w _ (fun i hi he => e ⟨i, by omega, he⟩)]
        refine ih (p w) ?_
        have hn : ¬ p w = w := fun e => by have := fo_d_0 e; omega
        have := fo_d_s F hn
        omega
  refine fo_mk F.1 F.2.1 (fun w hw => fo_rs_lt F hv hw _) (fun w hw => ?_) (fun w _ => B _ w rfl)
  have : fo_rr p v w = p w := fo_rs_o p v w _ (fun i _ he => by have := fo_lt F hv i; omega)
  rw [this]; exact F.2.2.2.1 w hw
end
section
/-! the cells of the two systems, and small rows of numbers -/
abbrev wFr (f fa fb fc : Nat) (cI cZ : ClassId) (n : Nat) (pa va ma : Nat → Int32) : va_W := [(f, .inr (0, [.int (nI n), .ref fa, .ref fb, .ref fc])), (fa, .inl (cI, 64, .inl pa)), (fb, .inl (cI, 64, .inl va)), (fc, .inl (cZ, 64, .inl ma))]
abbrev wF (f fa fb fc : Nat) (cI cZ : ClassId) (n : Nat) (pa va : Nat → Int32) (mk : Nat → Bool) : va_W := [(f, .inr (0, [.int (nI n), .ref fa, .ref fb, .ref fc])), (fa, .inl (cI, 64, .inl pa)), (fb, .inl (cI, 64, .inl va)), (fc, .inl (cZ, 64, .inl (fun i => bI (mk i))))]
abbrev wP (h hq : Nat) (cI : ClassId) (vs : Nat → Int32) (len : Int32) : va_W := [(h, .inr (1, [.ref hq, .int len])), (hq, .inl (cI, 64, .inl vs))]
abbrev wO (h f0 f1 f2 ph : Nat) : va_W := [(h, .inr (2, [.ref f0, .ref f1, .ref f2, .ref ph]))]
abbrev wM (h st sl sv pt : Nat) (cI cZ : ClassId) (fst fsl fsv fpt : Nat → Int32) (many : Int32) : va_W := [(h, .inr (3, [.ref st, .ref sl, .ref sv, .ref pt, .int many])), (st, .inl (cI, 193, .inl fst)), (sl, .inl (cI, 386, .inl fsl)), (sv, .inl (cZ, 2, .inl fsv)), (pt, .inl (cI, 64, .inl fpt))]
theorem cn_le {a b : Nat} (ha : a < 2 ^ 31) (hb : b < 2 ^ 31) (h : nI a ≤ nI b) : a ≤ b := (nI_leI ha hb).mp h
theorem cn_nle {a b : Nat} (ha : a < 2 ^ 31) (hb : b < 2 ^ 31) (h : ¬ nI a ≤ nI b) : b < a := Nat.lt_of_not_le fun q => h ((nI_leI ha hb).mpr q)
theorem cn_lt {a b : Nat} (ha : a < 2 ^ 31) (hb : b < 2 ^ 31) (h : nI a < nI b) : a < b := (nI_ltI ha hb).mp h
theorem cn_nlt {a b : Nat} (ha : a < 2 ^ 31) (hb : b < 2 ^ 31) (h : ¬ nI a < nI b) : b ≤ a := Nat.le_of_not_lt fun q => h ((nI_ltI ha hb).mpr q)
theorem cn_eq {a b : Nat} (ha : a < 2 ^ 31) (hb : b < 2 ^ 31) (h : nI a = nI b) : a = b := (nI_eq ha hb).mp h
theorem cn_ne {a b : Nat} (_ : a < 2 ^ 31) (_ : b < 2 ^ 31) (h : ¬ nI a = nI b) : a ≠ b := fun q => h (by rw [q])
def hasB (n : Nat) (v : Int32) : Bool := !decide (v < 0) && !decide (nI n ≤ v) && !decide (64 ≤ v)
theorem hasB_t {n j : Nat} (hj : j < n) (hn : n ≤ 64) : hasB n (nI j) = true := by
  have h1 : ¬ nI j < 0 := nI_pos (by omega)
  have h2 : ¬ nI n ≤ nI j := fun h => by have := cn_le (by omega) (by omega) h; omega
  have h3 : ¬ (64 : Int32) ≤ nI j := fun h => by have := cn_le (a := 64) (by omega) (by omega) h; omega
  simp [hasB, h1, h2, h3]
theorem hasB_of {n : Nat} {v : Int32} (hn : n ≤ 64) (h : hasB n v = true) : ∃ j, j < n ∧ v = nI j := by
  simp only [hasB, Bool.and_eq_true, Bool.not_eq_true', decide_eq_false_iff_not] at h
  obtain ⟨⟨h1, h2⟩, h3⟩ := h
  obtain ⟨j, hj, e⟩ := nI_of h1
  rw [e] at h2
  exact ⟨j, cn_nle (by omega) (by omega) h2, e⟩
theorem hasB_x {n j : Nat} {A : Prop} (hj : j < n) (hn : n ≤ 64) (h : hasB n (nI j) = false) : A := absurd h (by rw [hasB_t hj hn]; decide)
/-- the rows of parents as they stand in the class: -1 at a root -/
def fo_cp (G : Nat → Nat) : Nat → Int32 := fun v => if G v = v then -1 else nI (G v)
theorem fo_cp_r {G : Nat → Nat} {v : Nat} (h : G v = v) : fo_cp G v = -1 := if_pos h
theorem fo_cp_n {G : Nat → Nat} {v : Nat} (h : ¬ G v = v) : fo_cp G v = nI (G v) := if_neg h
theorem nI_m1 {k : Nat} (h : k < 2 ^ 31) : ¬ nI k = -1 := fun e => nI_pos h (by rw [e]; decide)
theorem fo_cp_1 {n : Nat} {G : Nat → Nat} (F : fo_ok n G) {v : Nat} (hv : v < n) : fo_cp G v = -1 ↔ G v = v := by
  by_cases e : G v = v
  · exact ⟨fun _ => e, fun _ => fo_cp_r e⟩
  · refine ⟨fun h => ?_, fun h => absurd h e⟩
    rw [fo_cp_n e] at h
    have := F.2.2.1 v hv
    have := F.2.1
    exact absurd h (nI_m1 (by omega))
theorem fo_cp_cut (G : Nat → Nat) (v : Nat) : upd (fo_cp G) v (-1) = fo_cp (fo_set G v v) := by
  funext j
  unfold upd fo_cp fo_set
  by_cases e : j = v
  · rw [if_pos e, if_pos e, if_pos e.symm]
  · rw [if_neg e, if_neg e]
theorem fo_cp_set (G : Nat → Nat) {v u : Nat} (h : u ≠ v) : upd (fo_cp G) v (nI u) = fo_cp (fo_set G v u) := by
  funext j
  unfold upd fo_cp fo_set
  by_cases e : j = v
  · rw [if_pos e, if_pos e, if_neg (by rw [e]; exact h)]
  · rw [if_neg e, if_neg e]
def bset (mk : Nat → Bool) (j : Nat) (on : Bool) : Nat → Bool := fun i => if i = j then on else mk i
theorem bset_eq (mk : Nat → Bool) (j : Nat) (on : Bool) : upd (fun i => bI (mk i)) j (bI on) = fun i => bI (bset mk j on i) := by
  funext i
  unfold upd bset
  by_cases e : i = j
  · rw [if_pos e, if_pos e]
  · rw [if_neg e, if_neg e]
/-- the first i of a row filled -/
def fillI (i : Nat) (g f : Nat → Int32) : Nat → Int32 := fun j => if j < i then g j else f j
theorem fillI_0 (g f : Nat → Int32) : fillI 0 g f = f := by
  funext j
  unfold fillI
  rw [if_neg (Nat.not_lt_zero j)]
theorem fillI_s (i : Nat) (g f : Nat → Int32) : upd (fillI i g f) i (g i) = fillI (i + 1) g f := by
  funext j
  unfold upd fillI
  by_cases e : j = i
  · rw [if_pos e, if_pos (by omega), e]
  · rw [if_neg e]
    by_cases e2 : j < i
    · rw [if_pos e2, if_pos (by omega)]
    · rw [if_neg e2, if_neg (by omega)]
theorem fillI_c (i : Nat) (x : Int32) (f : Nat → Int32) : upd (fillI i (fun _ => x) f) i x = fillI (i + 1) (fun _ => x) f := fillI_s i (fun _ => x) f
def fillB (i : Nat) (g mk : Nat → Bool) : Nat → Bool := fun j => if j < i then g j else mk j
theorem fillB_0 (g mk : Nat → Bool) : fillB 0 g mk = mk := by
  funext j
  unfold fillB
  rw [if_neg (Nat.not_lt_zero j)]
theorem fillB_s (i : Nat) (g mk : Nat → Bool) : upd (fun t => bI (fillB i g mk t)) i (bI (g i)) = fun t => bI (fillB (i + 1) g mk t) := by
  funext j
  unfold upd fillB
  by_cases e : j = i
  · rw [if_pos e, if_pos (by omega), e]
  · rw [if_neg e]
    show bI (if j < i then g j else mk j) = bI (if j < i + 1 then g j else mk j)
    by_cases e2 : j < i
    · rw [if_pos e2, if_pos (by omega)]
    · rw [if_neg e2, if_neg (by omega)]
theorem fillB_c (i : Nat) (mk : Nat → Bool) : upd (fun t => bI (fillB i (fun _ => false) mk t)) i 0 = fun t => bI (fillB (i + 1) (fun _ => false) mk t) := fillB_s i (fun _ => false) mk
theorem fillI_lt {i j : Nat} (g f : Nat → Int32) (h : j < i) : fillI i g f j = g j := if_pos h
theorem fillB_lt {i j : Nat} (g f : Nat → Bool) (h : j < i) : fillB i g f j = g j := if_pos h
end
section
/-! counts, meeting points, distances, paths of the pure forest -/
def fo_cnt (f : Nat → Bool) : Nat → Nat
  | 0 => 0
  | k + 1 => if f k = true then fo_cnt f k + 1 else fo_cnt f k
theorem fo_cnt_le (f : Nat → Bool) (k : Nat) : fo_cnt f k ≤ k := by
  induction k with
  | zero => exact Nat.le_refl 0
  | succ k ih =>
    show (if f k = true then fo_cnt f k + 1 else fo_cnt f k) ≤ k + 1
    by_cases h : f k = true
    · rw [if_pos h]; omega
    · rw [if_neg h]; omega
theorem fo_cnt_t {f : Nat → Bool} {k : Nat} (h : f k = true) : fo_cnt f (k + 1) = fo_cnt f k + 1 := if_pos h
theorem fo_cnt_f {f : Nat → Bool} {k : Nat} (h : f k = false) : fo_cnt f (k + 1) = fo_cnt f k := if_neg (by rw [h]; decide)
theorem fo_cnt_eq {f g : Nat → Bool} {k : Nat} (h : ∀ v, v < k → f v = g v) : fo_cnt f k = fo_cnt g k := by
  induction k with
  | zero => rfl
  | succ k ih =>
    show (if f k = true then fo_cnt f k + 1 else fo_cnt f k) = (if g k = true then fo_cnt g k + 1 else fo_cnt g k)
    rw [ih (fun v hv => h v (by omega)), h k (by omega)]
def fo_sum (f : Nat → Bool) (va : Nat → Int32) : Nat → Int32
  | 0 => 0
  | k + 1 => if f k = true then fo_sum f va k + va k else fo_sum f va k
theorem fo_sum_t {f : Nat → Bool} {va : Nat → Int32} {k : Nat} (h : f k = true) : fo_sum f va (k + 1) = fo_sum f va k + va k := if_pos h
theorem fo_sum_f {f : Nat → Bool} {va : Nat → Int32} {k : Nat} (h : f k = false) : fo_sum f va (k + 1) = fo_sum f va k := if_neg (by rw [h]; decide)
/-- v lies in the subtree of t -/
def fo_bel (p : Nat → Nat) (v t : Nat) : Bool := decide (fo_d p t ≤ fo_d p v) && decide (fo_up p (fo_d p v - fo_d p t) v = t)
theorem fo_bel_root {n : Nat} {p : Nat → Nat} (_F : fo_ok n p) {v t : Nat} (ht : p t = t) : fo_bel p v t = decide (fo_r p v = t) := by
  unfold fo_bel fo_r
  rw [fo_d_0 ht]
  simp
theorem fo_bel_self (p : Nat → Nat) (v : Nat) : fo_bel p v v = true := by
  unfold fo_bel
  simp [fo_up]
theorem fo_bel_step {n : Nat} {p : Nat → Nat} (F : fo_ok n p) {v t : Nat} (h1 : v ≠ t) (h2 : ¬ p v = v) : fo_bel p v t = fo_bel p (p v) t := by
  unfold fo_bel
  have hd := fo_d_s F h2
  by_cases h : fo_d p t ≤ fo_d p (p v)
  · have e : fo_d p v - fo_d p t = (fo_d p (p v) - fo_d p t) + 1 := by omega
    rw [e]
    have a1 : fo_d p t ≤ fo_d p v := by omega
    rw [show fo_up p (fo_d p (p v) - fo_d p t + 1) v = fo_up p (fo_d p (p v) - fo_d p t) (p v) from rfl]
    simp [a1, h]
  · by_cases h3 : fo_d p t ≤ fo_d p v
    · have e : fo_d p v - fo_d p t = 0 := by omega
      rw [e]
      simp [h, fo_up, h1]
    · simp [h, h3]
theorem fo_bel_0 {n : Nat} {p : Nat → Nat} (_F : fo_ok n p) {v t : Nat} (h1 : v ≠ t) (h2 : p v = v) : fo_bel p v t = false := by
  unfold fo_bel
  have hd := fo_d_0 h2
  rw [hd]
  simp [fo_up, h1]
/-- the meeting point -/
def fo_mF (p : Nat → Nat) : Nat → Nat → Nat → Nat
  | 0, a, _ => a
  | k + 1, a, b => if a = b then a else fo_mF p k (p a) (p b)
def fo_m (p : Nat → Nat) (u v : Nat) : Nat := fo_mF p 64 (fo_up p (fo_d p u - fo_d p v) u) (fo_up p (fo_d p v - fo_d p u) v)
theorem fo_mF_spec {n : Nat} {p : Nat → Nat} (F : fo_ok n p) : ∀ (k a b : Nat), fo_d p a = fo_d p b → fo_r p a = fo_r p b → fo_d p a < k → ∃ i, i ≤ fo_d p a ∧ fo_mF p k a b = fo_up p i a ∧ fo_up p i a = fo_up p i b ∧ ∀ j, j < i → fo_up p j a ≠ fo_up p j b := by
  intro k
  induction k with
  | zero => intro a b _ _ h; exact absurd h (Nat.not_lt_zero _)
  | succ k ih =>
    intro a b hd hr hk
    by_cases e : a = b
    · refine ⟨0, Nat.zero_le _, ?_, e, fun j h => absurd h (Nat.not_lt_zero _)⟩
      show (if a = b then a else fo_mF p k (p a) (p b)) = a
      rw [if_pos e]
    · have ha : ¬ p a = a := fun q => e (by
        have h1 := fo_d_0 q
        have h2 : p b = b := (fo_d_z F).mp (by omega)
        rw [fo_r_of q, fo_r_of h2] at hr
        exact hr)
      have hb : ¬ p b = b := fun q => ha ((fo_d_z F).mp (by have := fo_d_0 q; omega))
      have h1 := fo_d_s F ha
      have h2 := fo_d_s F hb
      obtain ⟨i, i1, i2, i3, i4⟩ := ih (p a) (p b) (by omega) (by rw [fo_r_p F, fo_r_p F]; exact hr) (by omega)
      refine ⟨i + 1, by omega, ?_, i3, fun j hj => ?_⟩
      · show (if a = b then a else fo_mF p k (p a) (p b)) = fo_up p i (p a)
        rw [if_neg e]; exact i2
      · cases j with
        | zero => exact e
        | succ j => exact i4 j (by omega)
theorem fo_mF_fuel {n : Nat} {p : Nat → Nat} (F : fo_ok n p) {k k' a b : Nat} (hd : fo_d p a = fo_d p b) (hr : fo_r p a = fo_r p b) (hk : fo_d p a < k) (hk' : fo_d p a < k') : fo_mF p k a b = fo_mF p k' a b := by
  obtain ⟨i, i1, i2, i3, i4⟩ := fo_mF_spec F k a b hd hr hk
  obtain ⟨j, j1, j2, j3, j4⟩ := fo_mF_spec F k' a b hd hr hk'
  have : i = j := by
    rcases Nat.lt_trichotomy i j with h | h | h
    · exact absurd i3 (j4 i h)
    · exact h
    · exact absurd j3 (i4 j h)
  rw [i2, j2, this]
theorem fo_m_spec {n : Nat} {p : Nat → Nat} (F : fo_ok n p) {u v : Nat} (hr : fo_r p u = fo_r p v) : fo_d p (fo_m p u v) ≤ fo_d p u ∧ fo_d p (fo_m p u v) ≤ fo_d p v ∧ fo_up p (fo_d p u - fo_d p (fo_m p u v)) u = fo_m p u v ∧ fo_up p (fo_d p v - fo_d p (fo_m p u v)) v = fo_m p u v ∧ ∀ e, fo_d p (fo_m p u v) < e → e ≤ fo_d p u → e ≤ fo_d p v → fo_up p (fo_d p u - e) u ≠ fo_up p (fo_d p v - e) v := by
  have da := fo_d_up F u (fo_d p u - fo_d p v) (Nat.sub_le _ _)
  have db := fo_d_up F v (fo_d p v - fo_d p u) (Nat.sub_le _ _)
  have l1 := fo_d_le F u
  obtain ⟨i, i1, i2, i3, i4⟩ := fo_mF_spec F 64 (fo_up p (fo_d p u - fo_d p v) u) (fo_up p (fo_d p v - fo_d p u) v) (by omega) (by rw [fo_r_up F, fo_r_up F]; exact hr) (by omega)
  have hm : fo_m p u v = fo_up p i (fo_up p (fo_d p u - fo_d p v) u) := i2
  have hdm : fo_d p (fo_m p u v) = fo_d p (fo_up p (fo_d p u - fo_d p v) u) - i := by
    rw [hm]; exact fo_d_up F _ i i1
  refine ⟨by omega, by omega, ?_, ?_, ?_⟩
  · rw [show fo_d p u - fo_d p (fo_m p u v) = (fo_d p u - fo_d p v) + i by omega, fo_up_add]
    exact hm.symm
  · rw [show fo_d p v - fo_d p (fo_m p u v) = (fo_d p v - fo_d p u) + i by omega, fo_up_add, ← i3]
    exact hm.symm
  · intro e h1 h2 h3
    have hj := i4 (fo_d p u - e - (fo_d p u - fo_d p v)) (by omega)
    rw [← fo_up_add, ← fo_up_add] at hj
    rw [show fo_d p u - e = (fo_d p u - fo_d p v) + (fo_d p u - e - (fo_d p u - fo_d p v)) by omega, show fo_d p v - e = (fo_d p v - fo_d p u) + (fo_d p u - e - (fo_d p u - fo_d p v)) by omega]
    exact hj
theorem fo_m_le {n : Nat} {p : Nat → Nat} (F : fo_ok n p) {u v : Nat} (hr : fo_r p u = fo_r p v) {e : Nat} (h1 : e ≤ fo_d p u) (h2 : e ≤ fo_d p v) : fo_up p (fo_d p u - e) u = fo_up p (fo_d p v - e) v ↔ e ≤ fo_d p (fo_m p u v) := by
  obtain ⟨m1, m2, m3, m4, m5⟩ := fo_m_spec F hr
  constructor
  · intro h
    apply Classical.byContradiction
    intro hc
    exact m5 e (by omega) h1 h2 h
  · intro h
    rw [show fo_d p u - e = (fo_d p u - fo_d p (fo_m p u v)) + (fo_d p (fo_m p u v) - e) by omega, show fo_d p v - e = (fo_d p v - fo_d p (fo_m p u v)) + (fo_d p (fo_m p u v) - e) by omega, fo_up_add, fo_up_add, m3, m4]
theorem fo_m_lt {n : Nat} {p : Nat → Nat} (F : fo_ok n p) {u v : Nat} (hr : fo_r p u = fo_r p v) (hu : u < n) : fo_m p u v < n := by
  obtain ⟨m1, m2, m3, m4, m5⟩ := fo_m_spec F hr
  rw [← m3]; exact fo_lt F hu _
theorem fo_dm_comm {n : Nat} {p : Nat → Nat} (F : fo_ok n p) {u v : Nat} (hr : fo_r p u = fo_r p v) : fo_d p (fo_m p u v) = fo_d p (fo_m p v u) := by
  obtain ⟨m1, m2, m3, m4, m5⟩ := fo_m_spec F hr
  obtain ⟨k1, k2, k3, k4, k5⟩ := fo_m_spec F hr.symm
  have h1 := (fo_m_le F hr.symm m2 m1).mp (by rw [m3, m4])
  have h2 := (fo_m_le F hr k2 k1).mp (by rw [k3, k4])
  omega
/-- how many edges lie between them -/
def fo_dist (p : Nat → Nat) (u v : Nat) : Nat := fo_d p u + fo_d p v - 2 * fo_d p (fo_m p u v)
theorem fo_dist_comm {n : Nat} {p : Nat → Nat} (F : fo_ok n p) {u v : Nat} (hr : fo_r p u = fo_r p v) : fo_dist p u v = fo_dist p v u := by
  unfold fo_dist
  rw [fo_dm_comm F hr, Nat.add_comm]
theorem fo_m_self {n : Nat} {p : Nat → Nat} (F : fo_ok n p) (v : Nat) : fo_d p (fo_m p v v) = fo_d p v := by
  obtain ⟨m1, m2, m3, m4, m5⟩ := fo_m_spec F (u := v) (v := v) rfl
  have := (fo_m_le F (u := v) (v := v) rfl (Nat.le_refl _) (Nat.le_refl _)).mp rfl
  omega
theorem fo_dist_self {n : Nat} {p : Nat → Nat} (F : fo_ok n p) (v : Nat) : fo_dist p v v = 0 := by
  unfold fo_dist
  rw [fo_m_self F]
  omega
theorem fo_ultra {n : Nat} {p : Nat → Nat} (F : fo_ok n p) {x y z : Nat} (h1 : fo_r p x = fo_r p y) (h2 : fo_r p y = fo_r p z) : fo_d p (fo_m p x y) ≤ fo_d p (fo_m p x z) ∨ fo_d p (fo_m p y z) ≤ fo_d p (fo_m p x z) := by
  obtain ⟨a1, a2, a3, a4, a5⟩ := fo_m_spec F h1
  obtain ⟨b1, b2, b3, b4, b5⟩ := fo_m_spec F h2
  rcases Nat.le_total (fo_d p (fo_m p x y)) (fo_d p (fo_m p y z)) with h | h
  · left
    refine (fo_m_le F (h1.trans h2) a1 (by omega)).mp ?_
    rw [(fo_m_le F h1 a1 a2).mpr (Nat.le_refl _), (fo_m_le F h2 a2 (by omega)).mpr h]
  · right
    refine (fo_m_le F (h1.trans h2) (by omega) b2).mp ?_
    rw [(fo_m_le F h1 (by omega) b1).mpr h, (fo_m_le F h2 b1 b2).mpr (Nat.le_refl _)]
theorem fo_four {n : Nat} {p : Nat → Nat} (F : fo_ok n p) {x y z w : Nat} (h1 : fo_r p x = fo_r p y) (h2 : fo_r p y = fo_r p z) (h3 : fo_r p z = fo_r p w) : fo_dist p x y + fo_dist p z w ≤ fo_dist p x z + fo_dist p y w ∨ fo_dist p x y + fo_dist p z w ≤ fo_dist p x w + fo_dist p y z := by
  have a1 := fo_ultra F (x := x) (y := z) (z := y) (by rw [h1, h2]) h2.symm
  have a2 := fo_ultra F (x := x) (y := w) (z := y) (by rw [h1, h2, h3]) (by rw [h2, h3])
  have a3 := fo_ultra F (x := z) (y := x) (z := w) (by rw [h1, h2]) (by rw [h1, h2, h3])
  have a4 := fo_ultra F (x := z) (y := y) (z := w) h2.symm (by rw [h2, h3])
  have c1 := fo_dm_comm F (u := z) (v := y) h2.symm
  have c2 := fo_dm_comm F (u := w) (v := y) (by rw [h2, h3])
  have c3 := fo_dm_comm F (u := z) (v := x) (by rw [h1, h2])
  have e1 := fo_m_spec F h1
  have e2 := fo_m_spec F h3
  have e3 := fo_m_spec F (u := x) (v := z) (by rw [h1, h2])
  have e4 := fo_m_spec F (u := y) (v := w) (by rw [h2, h3])
  have e5 := fo_m_spec F (u := x) (v := w) (by rw [h1, h2, h3])
  have e6 := fo_m_spec F h2
  unfold fo_dist
  have := e1.1; have := e1.2.1; have := e2.1; have := e2.2.1; have := e3.1; have := e3.2.1; have := e4.1; have := e4.2.1; have := e5.1; have := e5.2.1; have := e6.1; have := e6.2.1
  omega
theorem fo_dist_le {n : Nat} {p : Nat → Nat} (F : fo_ok n p) (u v : Nat) : fo_dist p u v ≤ 126 := by
  have := fo_d_le F u
  have := fo_d_le F v
  unfold fo_dist
  omega
/-- the path from u to v: its vertices by their places -/
def fo_pi (p : Nat → Nat) (u v : Nat) : Nat := fo_d p u - fo_d p (fo_m p u v)
def fo_pL (p : Nat → Nat) (u v : Nat) : Nat := fo_pi p u v + (fo_d p v - fo_d p (fo_m p u v)) + 1
def fo_pt (p : Nat → Nat) (u v : Nat) : Nat → Nat := fun k => if k ≤ fo_pi p u v then fo_up p k u else fo_up p (fo_pL p u v - 1 - k) v
theorem fo_pt_lt {n : Nat} {p : Nat → Nat} (F : fo_ok n p) {u v : Nat} (hu : u < n) (hv : v < n) (k : Nat) : fo_pt p u v k < n := by
  unfold fo_pt
  by_cases h : k ≤ fo_pi p u v
  · rw [if_pos h]; exact fo_lt F hu _
  · rw [if_neg h]; exact fo_lt F hv _
theorem fo_pt_ne {n : Nat} {p : Nat → Nat} (F : fo_ok n p) {u v : Nat} (hr : fo_r p u = fo_r p v) {i j : Nat} (hij : i < j) (hj : j < fo_pL p u v) : fo_pt p u v i ≠ fo_pt p u v j := by
  obtain ⟨m1, m2, m3, m4, m5⟩ := fo_m_spec F hr
  unfold fo_pt
  have hL : fo_pL p u v = fo_pi p u v + (fo_d p v - fo_d p (fo_m p u v)) + 1 := rfl
  have hI : fo_pi p u v = fo_d p u - fo_d p (fo_m p u v) := rfl
  by_cases h1 : j ≤ fo_pi p u v
  · rw [if_pos h1, if_pos (by omega)]
    exact fo_up_ne F (by omega) (by omega) (by omega)
  · rw [if_neg h1]
    by_cases h2 : i ≤ fo_pi p u v
    · rw [if_pos h2]
      intro he
      have d1 := fo_d_up F u i (by omega)
      have d2 := fo_d_up F v (fo_pL p u v - 1 - j) (by omega)
      rw [he] at d1
      refine m5 (fo_d p u - i) (by omega) (by omega) (by omega) ?_
      rw [show fo_d p u - (fo_d p u - i) = i by omega, show fo_d p v - (fo_d p u - i) = fo_pL p u v - 1 - j by omega]
      exact he
    · rw [if_neg h2]
      exact fo_up_ne F (by omega) (by omega) (by omega)
theorem fo_pL_le {n : Nat} {p : Nat → Nat} (F : fo_ok n p) {u v : Nat} (hr : fo_r p u = fo_r p v) (hu : u < n) (hv : v < n) : fo_pL p u v ≤ n := by
  apply Classical.byContradiction
  intro hc
  obtain ⟨i, j, hij, hj, he⟩ := fo_ph n (fo_pt p u v) (fun i _ => fo_pt_lt F hu hv i)
  exact fo_pt_ne F hr hij (by omega) he
theorem fo_pL_d {n : Nat} {p : Nat → Nat} (F : fo_ok n p) {u v : Nat} (hr : fo_r p u = fo_r p v) : fo_pL p u v = fo_dist p u v + 1 := by
  obtain ⟨m1, m2, m3, m4, m5⟩ := fo_m_spec F hr
  unfold fo_pL fo_pi fo_dist
  omega
end
section
/-! rows that the walks of the readers use -/
theorem fo_d_is {n : Nat} {G : Nat → Nat} (F : fo_ok n G) {j i : Nat} (hi : i ≤ fo_d G j) (h : G (fo_up G i j) = fo_up G i j) : i = fo_d G j := by
  have h1 := fo_d_up F j i hi
  have h2 := (fo_d_z F).mpr h
  omega
theorem fo_d_gt {n : Nat} {G : Nat → Nat} (F : fo_ok n G) {j i : Nat} (hi : i ≤ fo_d G j) (h : ¬ G (fo_up G i j) = fo_up G i j) : i < fo_d G j := by
  have h1 := fo_d_up F j i hi
  have h2 : ¬ fo_d G (fo_up G i j) = 0 := fun q => h ((fo_d_z F).mp q)
  omega
theorem i_neg_le {x : Int32} {i : Nat} (h : x < 0) (hi : i < 2 ^ 31) : x ≤ nI i := by
  have h0 : x.toInt < 0 := Int32.lt_iff_toInt_lt.mp h
  refine Int32.le_iff_toInt_le.mpr ?_
  rw [nI_toInt hi]
  omega
theorem climb_ge {x : Int32} {i k : Nat} (hx : x = nI k ∨ (x < 0 ∧ k = 0)) (c : x ≤ nI i) (hi : i ≤ k) (hk : k ≤ 63) : i = k := by
  rcases hx with h | ⟨_, h⟩
  · rw [h] at c
    have := cn_le (by omega) (by omega) c
    omega
  · omega
theorem climb_lt {x : Int32} {i k : Nat} (hx : x = nI k ∨ (x < 0 ∧ k = 0)) (c : ¬ x ≤ nI i) (hi : i ≤ k) (hk : k ≤ 63) : i < k := by
  rcases hx with h | ⟨h, h2⟩
  · rw [h] at c
    exact cn_nle (by omega) (by omega) c
  · exact absurd (i_neg_le h (by omega)) c
theorem sub_neg {a b : Nat} (ha : a < 2 ^ 30) (_ : b < 2 ^ 30) (h : nI a - nI b < 0) : a < b := by
  apply Nat.lt_of_not_le
  intro q
  rw [pk_sub q] at h
  exact nI_pos (by omega) h
theorem sub_nneg {a b : Nat} (_ : a < 2 ^ 30) (hb : b < 2 ^ 30) (h : ¬ nI a - nI b < 0) : b ≤ a := by
  apply Nat.le_of_not_lt
  intro q
  exact h (pk_sneg hb q)
theorem sub_cl {a b : Nat} (_ : a < 2 ^ 30) (hb : b < 2 ^ 30) : nI a - nI b = nI (a - b) ∨ (nI a - nI b < 0 ∧ a - b = 0) := by
  rcases Nat.le_total b a with h | h
  · exact Or.inl (pk_sub h)
  · by_cases e : a = b
    · rw [e]; exact Or.inl (pk_sub (Nat.le_refl b))
    · exact Or.inr ⟨pk_sneg hb (by omega), by omega⟩
theorem neg_cl {a b : Nat} (ha : a < 2 ^ 30) (hb : b < 2 ^ 30) : -(nI a - nI b) = nI (b - a) ∨ (-(nI a - nI b) < 0 ∧ b - a = 0) := by
  rw [Int32.neg_sub]
  exact sub_cl hb ha
theorem fo_nrm {n : Nat} {G : Nat → Nat} (F : fo_ok n G) {a b : Nat} (hd : fo_d G a = fo_d G b) (hr : fo_r G a = fo_r G b) (e : a ≠ b) : ¬ G a = a ∧ ¬ G b = b := by
  have ha : ¬ G a = a := fun q => e (by
    have h1 := fo_d_0 q
    have h2 : G b = b := (fo_d_z F).mp (by omega)
    rw [fo_r_of q, fo_r_of h2] at hr
    exact hr)
  exact ⟨ha, fun q => ha ((fo_d_z F).mp (by have := fo_d_0 q; omega))⟩
theorem fo_mF_eq {G : Nat → Nat} {k a b : Nat} (h : a = b) : fo_mF G k a b = a := by
  cases k with
  | zero => rfl
  | succ k => show (if a = b then a else fo_mF G k (G a) (G b)) = a; rw [if_pos h]
theorem fo_mF_st {G : Nat → Nat} {i a b : Nat} (hi : i < 64) (h : a ≠ b) : fo_mF G (64 - i) a b = fo_mF G (64 - (i + 1)) (G a) (G b) := by
  rw [show 64 - i = (64 - (i + 1)) + 1 by omega]
  show (if a = b then a else fo_mF G (64 - (i + 1)) (G a) (G b)) = _
  rw [if_neg h]
theorem fo_dist_v {n : Nat} {G : Nat → Nat} (F : fo_ok n G) {u v : Nat} (hr : fo_r G u = fo_r G v) : nI (fo_d G u) + nI (fo_d G v) - 2 * nI (fo_d G (fo_m G u v)) = nI (fo_dist G u v) := by
  obtain ⟨m1, m2, _⟩ := fo_m_spec F hr
  rw [show (2 : Int32) = nI 2 from rfl, pk_mul, nI_add, pk_sub (by omega)]
  rfl
end
section
/-! what is farthest, what is nearest, a turned path, a path laid -/
def fo_fs (G : Nat → Nat) (v : Nat) : Nat → Nat × Nat
  | 0 => (v, 0)
  | k + 1 => if fo_r G k = fo_r G v ∧ (fo_fs G v k).2 < fo_dist G v k then (k, fo_dist G v k) else fo_fs G v k
theorem fo_fs_y {G : Nat → Nat} {v k : Nat} (h1 : fo_r G k = fo_r G v) (h2 : (fo_fs G v k).2 < fo_dist G v k) : fo_fs G v (k + 1) = (k, fo_dist G v k) := if_pos ⟨h1, h2⟩
theorem fo_fs_n {G : Nat → Nat} {v k : Nat} (h : ¬ (fo_r G k = fo_r G v ∧ (fo_fs G v k).2 < fo_dist G v k)) : fo_fs G v (k + 1) = fo_fs G v k := if_neg h
theorem fo_fs_spec {n : Nat} {G : Nat → Nat} (F : fo_ok n G) {v : Nat} (hv : v < n) : ∀ k, k ≤ n → (fo_fs G v k).1 < n ∧ fo_r G (fo_fs G v k).1 = fo_r G v ∧ (fo_fs G v k).2 = fo_dist G v (fo_fs G v k).1 ∧ ∀ w, w < k → fo_r G w = fo_r G v → fo_dist G v w ≤ (fo_fs G v k).2 := by
  intro k
  induction k with
  | zero => intro _; exact ⟨hv, rfl, (fo_dist_self F v).symm, fun w h => absurd h (Nat.not_lt_zero _)⟩
  | succ k ih =>
    intro hk
    obtain ⟨a1, a2, a3, a4⟩ := ih (by omega)
    by_cases h : fo_r G k = fo_r G v ∧ (fo_fs G v k).2 < fo_dist G v k
    · rw [fo_fs_y h.1 h.2]
      refine ⟨hk, h.1, rfl, fun w hw hr => ?_⟩
      show fo_dist G v w ≤ fo_dist G v k
      by_cases e : w = k
      · rw [e]; exact Nat.le_refl _
      · have := a4 w (by omega) hr; omega
    · rw [fo_fs_n h]
      refine ⟨a1, a2, a3, fun w hw hr => ?_⟩
      by_cases e : w = k
      · rw [e] at hr ⊢
        exact Nat.le_of_not_lt fun q => h ⟨hr, q⟩
      · exact a4 w (by omega) hr
theorem fo_fs_le {n : Nat} {G : Nat → Nat} (F : fo_ok n G) {v : Nat} (hv : v < n) {k : Nat} (hk : k ≤ n) : (fo_fs G v k).2 ≤ 126 := by
  obtain ⟨_, _, a3, _⟩ := fo_fs_spec F hv k hk
  rw [a3]; exact fo_dist_le F _ _
def fo_ns (G : Nat → Nat) (mk : Nat → Bool) (v : Nat) : Nat → Option Nat × Nat
  | 0 => (none, 64)
  | k + 1 => if mk k = true ∧ fo_r G k = fo_r G v ∧ fo_dist G v k < (fo_ns G mk v k).2 then (some k, fo_dist G v k) else fo_ns G mk v k
theorem fo_ns_y {G : Nat → Nat} {mk : Nat → Bool} {v k : Nat} (h0 : mk k = true) (h1 : fo_r G k = fo_r G v) (h2 : fo_dist G v k < (fo_ns G mk v k).2) : fo_ns G mk v (k + 1) = (some k, fo_dist G v k) := if_pos ⟨h0, h1, h2⟩
theorem fo_ns_n {G : Nat → Nat} {mk : Nat → Bool} {v k : Nat} (h : ¬ (mk k = true ∧ fo_r G k = fo_r G v ∧ fo_dist G v k < (fo_ns G mk v k).2)) : fo_ns G mk v (k + 1) = fo_ns G mk v k := if_neg h
theorem fo_ns_le (G : Nat → Nat) (mk : Nat → Bool) (v k : Nat) : (fo_ns G mk v k).2 ≤ 64 ∧ ∀ w, (fo_ns G mk v k).1 = some w → w < k := by
  induction k with
  | zero => exact ⟨Nat.le_refl _, fun w h => by cases h⟩
  | succ k ih =>
    by_cases h : mk k = true ∧ fo_r G k = fo_r G v ∧ fo_dist G v k < (fo_ns G mk v k).2
    · rw [fo_ns_y h.1 h.2.1 h.2.2]
      refine ⟨?_, fun w hw => ?_⟩
      · show fo_dist G v k ≤ 64
        omega
      · have hw : some k = some w := hw
        cases hw; exact Nat.lt_succ_self k
    · rw [fo_ns_n h]
      exact ⟨ih.1, fun w hw => Nat.lt_succ_of_lt (ih.2 w hw)⟩
def oI (d : Int32) (x : Option Nat) : Int32 := match x with
  | none => d
  | some k => nI k
/-- the two rows of numbers of the turning loop -/
def twb (G : Nat → Nat) (v : Nat) : Nat → Int32
  | 0 => -1
  | i + 1 => nI (fo_up G i v)
def twa (G : Nat → Nat) (v i : Nat) : Int32 := if i ≤ fo_d G v then nI (fo_up G i v) else -1
theorem twa_le {G : Nat → Nat} {v i : Nat} (h : i ≤ fo_d G v) : twa G v i = nI (fo_up G i v) := if_pos h
theorem turn_at {n : Nat} {G : Nat → Nat} (F : fo_ok n G) {v i : Nat} (hi : i ≤ fo_d G v) : fo_cp (fo_rs G v i) (fo_up G i v) = twa G v (i + 1) := by
  have e := fo_rs_at F v hi
  by_cases h : G (fo_up G i v) = fo_up G i v
  · have hd := fo_d_is F hi h
    rw [fo_cp_r (by rw [e]; exact h)]
    unfold twa
    rw [if_neg (by omega)]
  · have hd := fo_d_gt F hi h
    rw [fo_cp_n (by rw [e]; exact h), e, ← fo_up_s G i v, twa_le (by omega)]
theorem turn_set {n : Nat} {G : Nat → Nat} (F : fo_ok n G) {v i : Nat} (hi : i ≤ fo_d G v) : upd (fo_cp (fo_rs G v i)) (fo_up G i v) (twb G v i) = fo_cp (fo_rs G v (i + 1)) := by
  cases i with
  | zero => exact fo_cp_cut _ _
  | succ i => exact fo_cp_set _ (fo_up_ne F (by omega) hi (by omega))
/-- the rows of a path: vertices appended on the way up, a stretch turned round -/
def apF (G : Nat → Nat) (b : Nat) (vs : Nat → Int32) (L k : Nat) : Nat → Int32 := fun t => if L ≤ t ∧ t < L + k then nI (fo_up G (t - L) b) else vs t
theorem apF_0 (G : Nat → Nat) (b : Nat) (vs : Nat → Int32) (L : Nat) : apF G b vs L 0 = vs := by
  funext t
  unfold apF
  rw [if_neg (by omega)]
theorem apF_s (G : Nat → Nat) (b : Nat) (vs : Nat → Int32) (L k : Nat) : upd (apF G b vs L k) (L + k) (nI (fo_up G k b)) = apF G b vs L (k + 1) := by
  funext t
  unfold upd apF
  by_cases e : t = L + k
  · rw [if_pos e, if_pos (by omega), e, Nat.add_sub_cancel_left]
  · rw [if_neg e]
    by_cases e2 : L ≤ t ∧ t < L + k
    · rw [if_pos e2, if_pos (by omega)]
    · rw [if_neg e2, if_neg (by omega)]
def rvK (vs : Nat → Int32) (S L k : Nat) : Nat → Int32 := fun t => if (S ≤ t ∧ t < S + k) ∨ (L - k ≤ t ∧ t < L) then vs (S + L - 1 - t) else vs t
def rvF (vs : Nat → Int32) (S L : Nat) : Nat → Int32 := fun t => if S ≤ t ∧ t < L then vs (S + L - 1 - t) else vs t
theorem rvK_0 (vs : Nat → Int32) (S L : Nat) : rvK vs S L 0 = vs := by
  funext t
  unfold rvK
  rw [if_neg (by omega)]
theorem rvK_s {vs : Nat → Int32} {S L k : Nat} (h : S + k < L - 1 - k) : upd (upd (rvK vs S L k) (S + k) (rvK vs S L k (L - 1 - k))) (L - 1 - k) (rvK vs S L k (S + k)) = rvK vs S L (k + 1) := by
  funext t
  have e1 : rvK vs S L k (L - 1 - k) = vs (L - 1 - k) := if_neg (by omega)
  have e2 : rvK vs S L k (S + k) = vs (S + k) := if_neg (by omega)
  rw [e1, e2]
  unfold upd rvK
  by_cases a : t = L - 1 - k
  · rw [if_pos a, if_pos (by omega)]
    rw [show S + L - 1 - t = S + k by omega]
  · rw [if_neg a]
    by_cases b : t = S + k
    · rw [if_pos b, if_pos (by omega)]
      rw [show S + L - 1 - t = L - 1 - k by omega]
    · rw [if_neg b]
      by_cases c : (S ≤ t ∧ t < S + k) ∨ (L - k ≤ t ∧ t < L)
      · rw [if_pos c, if_pos (by omega)]
      · rw [if_neg c, if_neg (by omega)]
theorem rvK_end {vs : Nat → Int32} {S L k : Nat} (h : S + 2 * k ≤ L) (h2 : L - 1 - k ≤ S + k) : rvK vs S L k = rvF vs S L := by
  funext t
  unfold rvK rvF
  by_cases c : (S ≤ t ∧ t < S + k) ∨ (L - k ≤ t ∧ t < L)
  · rw [if_pos c, if_pos (by omega)]
  · rw [if_neg c]
    by_cases e : S ≤ t ∧ t < L
    · rw [if_pos e, show S + L - 1 - t = t by omega]
    · rw [if_neg e]
theorem trace_eq {n : Nat} {G : Nat → Nat} (F : fo_ok n G) {u v : Nat} (hr : fo_r G u = fo_r G v) (vs : Nat → Int32) : rvF (apF G v (upd (apF G u vs 0 (fo_pi G u v)) (0 + fo_pi G u v) (nI (fo_m G u v))) (0 + fo_pi G u v + 1) (fo_d G v - fo_d G (fo_m G u v))) (0 + fo_pi G u v + 1) (0 + fo_pi G u v + 1 + (fo_d G v - fo_d G (fo_m G u v))) = fillI (fo_pL G u v) (fun t => nI (fo_pt G u v t)) vs := by
  obtain ⟨m1, m2, m3, m4, m5⟩ := fo_m_spec F hr
  have hL : fo_pL G u v = fo_pi G u v + (fo_d G v - fo_d G (fo_m G u v)) + 1 := rfl
  have hI : fo_pi G u v = fo_d G u - fo_d G (fo_m G u v) := rfl
  generalize fo_d G v - fo_d G (fo_m G u v) = k at *
  funext t
  unfold fillI
  by_cases a : t < fo_pL G u v
  · rw [if_pos a]
    show _ = nI (fo_pt G u v t)
    unfold fo_pt
    by_cases b : t ≤ fo_pi G u v
    · rw [if_pos b]
      unfold rvF apF
      rw [if_neg (by omega)]
      show (if 0 + fo_pi G u v + 1 ≤ t ∧ _ then _ else _) = _
      rw [if_neg (by omega)]
      unfold upd
      by_cases e : t = 0 + fo_pi G u v
      · rw [if_pos e, show t = fo_d G u - fo_d G (fo_m G u v) by omega, m3]
      · rw [if_neg e]
        dsimp only
        rw [if_pos (by omega), Nat.sub_zero]
    · rw [if_neg b]
      unfold rvF
      rw [if_pos (by omega)]
      unfold apF
      rw [if_pos (by omega)]
      rw [show 0 + fo_pi G u v + 1 + (0 + fo_pi G u v + 1 + k) - 1 - t - (0 + fo_pi G u v + 1) = fo_pL G u v - 1 - t by omega]
  · rw [if_neg a]
    unfold rvF apF
    rw [if_neg (by omega)]
    show (if 0 + fo_pi G u v + 1 ≤ t ∧ _ then _ else _) = _
    rw [if_neg (by omega)]
    unfold upd
    rw [if_neg (by omega)]
    dsimp only
    rw [if_neg (by omega)]
end
section
set_option maxHeartbeats 4000000 in
set_option maxRecDepth 100000 in
theorem c_X0_size (l : Launch) (D : va_G) (cI cZ : ClassId) (f : Nat) (fa : Nat) (fb : Nat) (fc : Nat) (n : Nat) (pa : Nat → Int32) (va : Nat → Int32) (mk : Nat → Bool) : RdM l yX0_size wsX0_size 0 0 D cI cZ (wF f fa fb fc cI cZ n pa va mk) [.ref f] (nI n) := by
  refine RdM.of (cc := cX0_size) (maxL := 1) (ret := (some .int)) (by decide) rfl (Nat.le_of_ble_eq_true rfl) ?_
  intro p e s m below meth c hx hb hr hml hown hts hlocks hP hK ls hl
  have hown : s.vm.findClass RX0 = some m.cls := hown
  have hl : lv_has ls 1 [(0, .ref f)] := hl
  have hf9 := hts (.fieldLink RX0 9 "DynamicForest$Forest" "size" "I") (by decide +kernel)
  have hin0 : ∀ w ∈ u_ws RX0 TX0 4, w ∈ wsX0_size := by decide +kernel
  refine lv_aload_n hx hb dX0_size_0 rfl (lv_at hl 0 rfl) ?_
  refine va_get (D := D) (ci := 0) (v := .int (nI n)) (C := RX0) (T := TX0) (N := 4) hx hb hts hin0 hown hK hP 0 rfl rfl 0 (by decide) hf9 (fun _ h9 => h9) rfl dX0_size_1 ?_
  exact rd_i hx hb hr hlocks rfl dX0_size_4
set_option maxHeartbeats 4000000 in
set_option maxRecDepth 100000 in
theorem c_X0_has (l : Launch) (D : va_G) (cI cZ : ClassId) (f : Nat) (fa : Nat) (fb : Nat) (fc : Nat) (n : Nat) (pa : Nat → Int32) (va : Nat → Int32) (mk : Nat → Bool) (v : Int32) : RdM l yX0_has wsX0_has 0 0 D cI cZ (wF f fa fb fc cI cZ n pa va mk) [.ref f, .int v] (bI (hasB n v)) := by
  refine RdM.of (cc := cX0_has) (maxL := 2) (ret := (some .boolean)) (by decide) rfl (Nat.le_of_ble_eq_true rfl) ?_
  intro p e s m below meth c hx hb hr hml hown hts hlocks hP hK ls hl
  have hown : s.vm.findClass RX0 = some m.cls := hown
  have hl : lv_has ls 2 [(0, .ref f), (1, .int v)] := hl
  have hf9 := hts (.fieldLink RX0 9 "DynamicForest$Forest" "size" "I") (by decide +kernel)
  have hin0 : ∀ w ∈ u_ws RX0 TX0 4, w ∈ wsX0_has := by decide +kernel
  refine lv_iload_n hx hb dX0_has_0 rfl (lv_at hl 1 rfl) ?_
  refine lv_if_lt (tgt := 22) hx hb dX0_has_1 (by decide) (fun c_1 => ?_) (fun c_1 => ?_)
  · skip
    refine lv_iconst (v := 0) hx hb dX0_has_22 (by decide) ?_
    exact rd_z hx hb hr hlocks (by simp [hasB, bI, c_1]) dX0_has_23
  · skip
    refine lv_iload_n hx hb dX0_has_4 rfl (lv_at hl 1 rfl) ?_
    refine lv_aload_n hx hb dX0_has_5 rfl (lv_at hl 0 rfl) ?_
    refine va_get (D := D) (ci := 0) (v := .int (nI n)) (C := RX0) (T := TX0) (N := 4) hx hb hts hin0 hown hK hP 0 rfl rfl 0 (by decide) hf9 (fun _ h9 => h9) rfl dX0_has_6 ?_
    refine lv_icmp_ge (tgt := 22) hx hb dX0_has_9 (by decide) (fun c_2 => ?_) (fun c_2 => ?_)
    · skip
      refine lv_iconst (v := 0) hx hb dX0_has_22 (by decide) ?_
      exact rd_z hx hb hr hlocks (by simp [hasB, bI, c_2]) dX0_has_23
    · skip
      refine lv_iload_n hx hb dX0_has_12 rfl (lv_at hl 1 rfl) ?_
      refine lv_bipush (v := 64) hx hb dX0_has_13 (by decide) ?_
      refine lv_icmp_ge (tgt := 22) hx hb dX0_has_15 (by decide) (fun c_3 => ?_) (fun c_3 => ?_)
      · skip
        refine lv_iconst (v := 0) hx hb dX0_has_22 (by decide) ?_
        exact rd_z hx hb hr hlocks (by simp [hasB, bI, c_3]) dX0_has_23
      · skip
        refine lv_iconst (v := 1) hx hb dX0_has_18 (by decide) ?_
        refine lv_goto (tgt := 23) hx hb dX0_has_19 (by decide) ?_
        exact rd_z hx hb hr hlocks (by simp [hasB, bI, c_1, c_2, c_3]) dX0_has_23
set_option maxHeartbeats 4000000 in
set_option maxRecDepth 100000 in
theorem c_X0_parentOf (l : Launch) (D : va_G) (cI cZ : ClassId) (f : Nat) (fa : Nat) (fb : Nat) (fc : Nat) (n : Nat) (pa : Nat → Int32) (va : Nat → Int32) (mk : Nat → Bool) (j : Nat) (hj : j < n) (hn : n ≤ 64) : RdM l yX0_parentOf wsX0_parentOf 1 21 D cI cZ (wF f fa fb fc cI cZ n pa va mk) [.ref f, .int (nI j)] (pa j) := by
  refine RdM.of (cc := cX0_parentOf) (maxL := 2) (ret := (some .int)) (by decide) rfl (Nat.le_of_ble_eq_true rfl) ?_
  intro p e s m below meth c hx hb hr hml hown hts hlocks hP hK ls hl
  have hown : s.vm.findClass RX0 = some m.cls := hown
  have hl : lv_has ls 2 [(0, .ref f), (1, .int (nI j))] := hl
  have hf15 := hts (.fieldLink RX0 15 "DynamicForest$Forest" "parents" "[I") (by decide +kernel)
  have hin0 : ∀ w ∈ u_ws RX0 TX0 4, w ∈ wsX0_parentOf := by decide +kernel
  refine lv_aload_n hx hb dX0_parentOf_0 rfl (lv_at hl 0 rfl) ?_
  refine lv_iload_n hx hb dX0_parentOf_1 rfl (lv_at hl 1 rfl) ?_
  refine rd_call ⟨hx, hb, hml, hown, hts⟩ (c_X0_has l D cI cZ f fa fb fc n pa va mk (nI j)) (cwV 1 hts gX0_parentOf_X0_has rfl rfl rfl (by decide +kernel) ⟨Nat.le_of_ble_eq_true rfl, Nat.le_of_ble_eq_true rfl⟩) hP hK rfl rfl rfl hl rfl (Nat.le_of_ble_eq_true rfl) dX0_parentOf_2 ⟨Nat.zero_le _, Nat.zero_le _⟩ ?_
  refine lv_if_eq (tgt := 17) hx hb dX0_parentOf_5 (by decide) (fun c_1 => ?_) (fun c_1 => ?_)
  · skip
    have c_1 := bI_0 c_1
    exact hasB_x hj hn c_1
  · skip
    have c_1 := bI_1 c_1
    refine lv_aload_n hx hb dX0_parentOf_8 rfl (lv_at hl 0 rfl) ?_
    refine va_get (D := D) (ci := 0) (v := .ref fa) (C := RX0) (T := TX0) (N := 4) hx hb hts hin0 hown hK hP 0 rfl rfl 1 (by decide) hf15 (fun _ h9 => h9) rfl dX0_parentOf_9 ?_
    refine lv_iload_n hx hb dX0_parentOf_12 rfl (lv_at hl 1 rfl) ?_
    refine ar_i (tys := []) hx hb hK hP 1 rfl (k := j) (by omega) (by decide) dX0_parentOf_13 ?_
    refine lv_goto (tgt := 18) hx hb dX0_parentOf_14 (by decide) ?_
    exact rd_i hx hb hr hlocks rfl dX0_parentOf_18
set_option maxHeartbeats 4000000 in
set_option maxRecDepth 100000 in
theorem c_X0_putParent (l : Launch) (D : va_G) (cI cZ : ClassId) (f : Nat) (fa : Nat) (fb : Nat) (fc : Nat) (n : Nat) (pa : Nat → Int32) (va : Nat → Int32) (mk : Nat → Bool) (j : Nat) (hj : j < n) (hn : n ≤ 64) (x : Int32) : WrM l yX0_putParent wsX0_putParent 1 21 D cI cZ (wF f fa fb fc cI cZ n pa va mk) (wF f fa fb fc cI cZ n (upd pa j x) va mk) [.ref f, .int (nI j), .int x] none := by
  refine WrM.of (cc := cX0_putParent) (maxL := 3) (ret := none) (by decide) rfl (Nat.le_of_ble_eq_true rfl) ?_
  intro p e s m below meth c hx hb hr hml hown hts hlocks hP hK hD hS ls hl
  have hown : s.vm.findClass RX0 = some m.cls := hown
  have hl : lv_has ls 3 [(0, .ref f), (1, .int (nI j)), (2, .int x)] := hl
  have hP : va_P D vwCl (wF f fa fb fc cI cZ n pa va mk) s.heap := hP
  have hf15 := hts (.fieldLink RX0 15 "DynamicForest$Forest" "parents" "[I") (by decide +kernel)
  have hin0 : ∀ w ∈ u_ws RX0 TX0 4, w ∈ wsX0_putParent := by decide +kernel
  refine lv_aload_n hx hb dX0_putParent_0 rfl (lv_at hl 0 rfl) ?_
  refine lv_iload_n hx hb dX0_putParent_1 rfl (lv_at hl 1 rfl) ?_
  refine rd_call ⟨hx, hb, hml, hown, hts⟩ (c_X0_has l D cI cZ f fa fb fc n pa va mk (nI j)) (cwV 1 hts gX0_putParent_X0_has rfl rfl rfl (by decide +kernel) ⟨Nat.le_of_ble_eq_true rfl, Nat.le_of_ble_eq_true rfl⟩) hP hK rfl rfl rfl hl rfl (Nat.le_of_ble_eq_true rfl) dX0_putParent_2 ⟨Nat.zero_le _, Nat.zero_le _⟩ ?_
  refine lv_if_eq (tgt := 15) hx hb dX0_putParent_5 (by decide) (fun c_1 => ?_) (fun c_1 => ?_)
  · skip
    have c_1 := bI_0 c_1
    exact hasB_x hj hn c_1
  · skip
    have c_1 := bI_1 c_1
    refine lv_aload_n hx hb dX0_putParent_8 rfl (lv_at hl 0 rfl) ?_
    refine va_get (D := D) (ci := 0) (v := .ref fa) (C := RX0) (T := TX0) (N := 4) hx hb hts hin0 hown hK hP 0 rfl rfl 1 (by decide) hf15 (fun _ h9 => h9) rfl dX0_putParent_9 ?_
    refine lv_iload_n hx hb dX0_putParent_12 rfl (lv_at hl 1 rfl) ?_
    refine lv_iload_n hx hb dX0_putParent_13 rfl (lv_at hl 2 rfl) ?_
    refine ar_is hx hb hK hP hD hS 1 rfl (k := j) (by omega) (by decide) dX0_putParent_14 (fun H locs hP hD hS => ?_)
    have hP : va_P D vwCl (wF f fa fb fc cI cZ n (upd pa j x) va mk) H := hP
    have hD : va_D (adr (wF f fa fb fc cI cZ n pa va mk)) (wF f fa fb fc cI cZ n (upd pa j x) va mk) := vd_same hD rfl
    exact wr_v hx hb hr hlocks hP hS dX0_putParent_15
set_option maxHeartbeats 4000000 in
set_option maxRecDepth 100000 in
theorem c_X0_isRoot (l : Launch) (D : va_G) (cI cZ : ClassId) (f : Nat) (fa : Nat) (fb : Nat) (fc : Nat) (n : Nat) (pa : Nat → Int32) (va : Nat → Int32) (mk : Nat → Bool) (j : Nat) (hj : j < n) (hn : n ≤ 64) : RdM l yX0_isRoot wsX0_isRoot 2 42 D cI cZ (wF f fa fb fc cI cZ n pa va mk) [.ref f, .int (nI j)] (bI (decide (pa j = -1))) := by
  refine RdM.of (cc := cX0_isRoot) (maxL := 2) (ret := (some .boolean)) (by decide) rfl (Nat.le_of_ble_eq_true rfl) ?_
  intro p e s m below meth c hx hb hr hml hown hts hlocks hP hK ls hl
  have hown : s.vm.findClass RX0 = some m.cls := hown
  have hl : lv_has ls 2 [(0, .ref f), (1, .int (nI j))] := hl
  refine lv_aload_n hx hb dX0_isRoot_0 rfl (lv_at hl 0 rfl) ?_
  refine lv_iload_n hx hb dX0_isRoot_1 rfl (lv_at hl 1 rfl) ?_
  refine rd_call ⟨hx, hb, hml, hown, hts⟩ (c_X0_parentOf l D cI cZ f fa fb fc n pa va mk j hj hn) (cwV 1 hts gX0_isRoot_X0_parentOf rfl rfl rfl (by decide +kernel) ⟨Nat.le_of_ble_eq_true rfl, Nat.le_of_ble_eq_true rfl⟩) hP hK rfl rfl rfl hl rfl (Nat.le_of_ble_eq_true rfl) dX0_isRoot_2 ⟨Nat.zero_le _, Nat.zero_le _⟩ ?_
  refine lv_iconst (v := -1) hx hb dX0_isRoot_5 (by decide) ?_
  refine lv_icmp_ne (tgt := 13) hx hb dX0_isRoot_6 (by decide) (fun c_1 => ?_) (fun c_1 => ?_)
  · skip
    refine lv_iconst (v := 0) hx hb dX0_isRoot_13 (by decide) ?_
    exact rd_z hx hb hr hlocks (by simp [bI, c_1]) dX0_isRoot_14
  · skip
    refine lv_iconst (v := 1) hx hb dX0_isRoot_9 (by decide) ?_
    refine lv_goto (tgt := 14) hx hb dX0_isRoot_10 (by decide) ?_
    exact rd_z hx hb hr hlocks (by simp [bI, c_1]) dX0_isRoot_14
set_option maxHeartbeats 4000000 in
set_option maxRecDepth 100000 in
theorem c_X0_valueOf (l : Launch) (D : va_G) (cI cZ : ClassId) (f : Nat) (fa : Nat) (fb : Nat) (fc : Nat) (n : Nat) (pa : Nat → Int32) (va : Nat → Int32) (mk : Nat → Bool) (j : Nat) (hj : j < n) (hn : n ≤ 64) : RdM l yX0_valueOf wsX0_valueOf 1 21 D cI cZ (wF f fa fb fc cI cZ n pa va mk) [.ref f, .int (nI j)] (va j) := by
  refine RdM.of (cc := cX0_valueOf) (maxL := 2) (ret := (some .int)) (by decide) rfl (Nat.le_of_ble_eq_true rfl) ?_
  intro p e s m below meth c hx hb hr hml hown hts hlocks hP hK ls hl
  have hown : s.vm.findClass RX0 = some m.cls := hown
  have hl : lv_has ls 2 [(0, .ref f), (1, .int (nI j))] := hl
  have hf19 := hts (.fieldLink RX0 19 "DynamicForest$Forest" "values" "[I") (by decide +kernel)
  have hin0 : ∀ w ∈ u_ws RX0 TX0 4, w ∈ wsX0_valueOf := by decide +kernel
  refine lv_aload_n hx hb dX0_valueOf_0 rfl (lv_at hl 0 rfl) ?_
  refine lv_iload_n hx hb dX0_valueOf_1 rfl (lv_at hl 1 rfl) ?_
  refine rd_call ⟨hx, hb, hml, hown, hts⟩ (c_X0_has l D cI cZ f fa fb fc n pa va mk (nI j)) (cwV 1 hts gX0_valueOf_X0_has rfl rfl rfl (by decide +kernel) ⟨Nat.le_of_ble_eq_true rfl, Nat.le_of_ble_eq_true rfl⟩) hP hK rfl rfl rfl hl rfl (Nat.le_of_ble_eq_true rfl) dX0_valueOf_2 ⟨Nat.zero_le _, Nat.zero_le _⟩ ?_
  refine lv_if_eq (tgt := 17) hx hb dX0_valueOf_5 (by decide) (fun c_1 => ?_) (fun c_1 => ?_)
  · skip
    have c_1 := bI_0 c_1
    exact hasB_x hj hn c_1
  · skip
    have c_1 := bI_1 c_1
    refine lv_aload_n hx hb dX0_valueOf_8 rfl (lv_at hl 0 rfl) ?_
    refine va_get (D := D) (ci := 0) (v := .ref fb) (C := RX0) (T := TX0) (N := 4) hx hb hts hin0 hown hK hP 0 rfl rfl 2 (by decide) hf19 (fun _ h9 => h9) rfl dX0_valueOf_9 ?_
    refine lv_iload_n hx hb dX0_valueOf_12 rfl (lv_at hl 1 rfl) ?_
    refine ar_i (tys := []) hx hb hK hP 2 rfl (k := j) (by omega) (by decide) dX0_valueOf_13 ?_
    refine lv_goto (tgt := 18) hx hb dX0_valueOf_14 (by decide) ?_
    exact rd_i hx hb hr hlocks rfl dX0_valueOf_18
set_option maxHeartbeats 4000000 in
set_option maxRecDepth 100000 in
theorem c_X0_putValue (l : Launch) (D : va_G) (cI cZ : ClassId) (f : Nat) (fa : Nat) (fb : Nat) (fc : Nat) (n : Nat) (pa : Nat → Int32) (va : Nat → Int32) (mk : Nat → Bool) (j : Nat) (hj : j < n) (hn : n ≤ 64) (x : Int32) : WrM l yX0_putValue wsX0_putValue 1 21 D cI cZ (wF f fa fb fc cI cZ n pa va mk) (wF f fa fb fc cI cZ n pa (upd va j x) mk) [.ref f, .int (nI j), .int x] none := by
  refine WrM.of (cc := cX0_putValue) (maxL := 3) (ret := none) (by decide) rfl (Nat.le_of_ble_eq_true rfl) ?_
  intro p e s m below meth c hx hb hr hml hown hts hlocks hP hK hD hS ls hl
  have hown : s.vm.findClass RX0 = some m.cls := hown
  have hl : lv_has ls 3 [(0, .ref f), (1, .int (nI j)), (2, .int x)] := hl
  have hP : va_P D vwCl (wF f fa fb fc cI cZ n pa va mk) s.heap := hP
  have hf19 := hts (.fieldLink RX0 19 "DynamicForest$Forest" "values" "[I") (by decide +kernel)
  have hin0 : ∀ w ∈ u_ws RX0 TX0 4, w ∈ wsX0_putValue := by decide +kernel
  refine lv_aload_n hx hb dX0_putValue_0 rfl (lv_at hl 0 rfl) ?_
  refine lv_iload_n hx hb dX0_putValue_1 rfl (lv_at hl 1 rfl) ?_
  refine rd_call ⟨hx, hb, hml, hown, hts⟩ (c_X0_has l D cI cZ f fa fb fc n pa va mk (nI j)) (cwV 1 hts gX0_putValue_X0_has rfl rfl rfl (by decide +kernel) ⟨Nat.le_of_ble_eq_true rfl, Nat.le_of_ble_eq_true rfl⟩) hP hK rfl rfl rfl hl rfl (Nat.le_of_ble_eq_true rfl) dX0_putValue_2 ⟨Nat.zero_le _, Nat.zero_le _⟩ ?_
  refine lv_if_eq (tgt := 15) hx hb dX0_putValue_5 (by decide) (fun c_1 => ?_) (fun c_1 => ?_)
  · skip
    have c_1 := bI_0 c_1
    exact hasB_x hj hn c_1
  · skip
    have c_1 := bI_1 c_1
    refine lv_aload_n hx hb dX0_putValue_8 rfl (lv_at hl 0 rfl) ?_
    refine va_get (D := D) (ci := 0) (v := .ref fb) (C := RX0) (T := TX0) (N := 4) hx hb hts hin0 hown hK hP 0 rfl rfl 2 (by decide) hf19 (fun _ h9 => h9) rfl dX0_putValue_9 ?_
    refine lv_iload_n hx hb dX0_putValue_12 rfl (lv_at hl 1 rfl) ?_
    refine lv_iload_n hx hb dX0_putValue_13 rfl (lv_at hl 2 rfl) ?_
    refine ar_is hx hb hK hP hD hS 2 rfl (k := j) (by omega) (by decide) dX0_putValue_14 (fun H locs hP hD hS => ?_)
    have hP : va_P D vwCl (wF f fa fb fc cI cZ n pa (upd va j x) mk) H := hP
    have hD : va_D (adr (wF f fa fb fc cI cZ n pa va mk)) (wF f fa fb fc cI cZ n pa (upd va j x) mk) := vd_same hD rfl
    exact wr_v hx hb hr hlocks hP hS dX0_putValue_15
set_option maxHeartbeats 4000000 in
set_option maxRecDepth 100000 in
theorem c_X0_swapValues (l : Launch) (D : va_G) (cI cZ : ClassId) (f : Nat) (fa : Nat) (fb : Nat) (fc : Nat) (n : Nat) (pa : Nat → Int32) (va : Nat → Int32) (mk : Nat → Bool) (j : Nat) (hj : j < n) (hn : n ≤ 64) (k : Nat) (hk : k < n) : WrM l yX0_swapValues wsX0_swapValues 2 43 D cI cZ (wF f fa fb fc cI cZ n pa va mk) (wF f fa fb fc cI cZ n pa (upd (upd va j (va k)) k (va j)) mk) [.ref f, .int (nI j), .int (nI k)] none := by
  refine WrM.of (cc := cX0_swapValues) (maxL := 4) (ret := none) (by decide) rfl (Nat.le_of_ble_eq_true rfl) ?_
  intro p e s m below meth c hx hb hr hml hown hts hlocks hP hK hD hS ls hl
  have hown : s.vm.findClass RX0 = some m.cls := hown
  have hl : lv_has ls 4 [(0, .ref f), (1, .int (nI j)), (2, .int (nI k))] := hl
  have hP : va_P D vwCl (wF f fa fb fc cI cZ n pa va mk) s.heap := hP
  refine lv_aload_n hx hb dX0_swapValues_0 rfl (lv_at hl 0 rfl) ?_
  refine lv_iload_n hx hb dX0_swapValues_1 rfl (lv_at hl 1 rfl) ?_
  refine rd_call ⟨hx, hb, hml, hown, hts⟩ (c_X0_valueOf l D cI cZ f fa fb fc n pa va mk j hj hn) (cwV 1 hts gX0_swapValues_X0_valueOf rfl rfl rfl (by decide +kernel) ⟨Nat.le_of_ble_eq_true rfl, Nat.le_of_ble_eq_true rfl⟩) hP hK rfl rfl rfl hl rfl (Nat.le_of_ble_eq_true rfl) dX0_swapValues_2 ⟨Nat.zero_le _, Nat.zero_le _⟩ ?_
  refine lv_istore_n (lv' := [(3, .int (va j)), (0, .ref f), (1, .int (nI j)), (2, .int (nI k))]) hx hb dX0_swapValues_5 rfl hl (by decide) rfl (fun ls hl => ?_)
  refine lv_aload_n hx hb dX0_swapValues_6 rfl (lv_at hl 1 rfl) ?_
  refine lv_iload_n hx hb dX0_swapValues_7 rfl (lv_at hl 2 rfl) ?_
  refine lv_aload_n hx hb dX0_swapValues_8 rfl (lv_at hl 1 rfl) ?_
  refine lv_iload_n hx hb dX0_swapValues_9 rfl (lv_at hl 3 rfl) ?_
  refine rd_call ⟨hx, hb, hml, hown, hts⟩ (c_X0_valueOf l D cI cZ f fa fb fc n pa va mk k hk hn) (cwV 1 hts gX0_swapValues_X0_valueOf rfl rfl rfl (by decide +kernel) ⟨Nat.le_of_ble_eq_true rfl, Nat.le_of_ble_eq_true rfl⟩) hP hK rfl rfl rfl hl rfl (Nat.le_of_ble_eq_true rfl) dX0_swapValues_10 ⟨Nat.zero_le _, Nat.zero_le _⟩ ?_
  refine wr_call (V1 := wF f fa fb fc cI cZ n pa (upd va j (va k)) mk) ⟨hx, hb, hml, hown, hts⟩ (c_X0_putValue l D cI cZ f fa fb fc n pa va mk j hj hn (va k)) (cwV 2 hts gX0_swapValues_X0_putValue rfl rfl rfl (by decide +kernel) ⟨Nat.le_of_ble_eq_true rfl, Nat.le_of_ble_eq_true rfl⟩) hP hK hD hS [0, 1, 2, 3] [] [0, 1, 2, 3] rfl rfl (by decide) rfl rfl rfl rfl rfl hl rfl (Nat.le_of_ble_eq_true rfl) dX0_swapValues_13 ⟨Nat.zero_le _, Nat.zero_le _⟩ (fun H locs hP hD hS => ?_)
  refine lv_aload_n hx hb dX0_swapValues_16 rfl (lv_at hl 1 rfl) ?_
  refine lv_iload_n hx hb dX0_swapValues_17 rfl (lv_at hl 3 rfl) ?_
  refine lv_iload_n hx hb dX0_swapValues_18 rfl (lv_at hl 0 rfl) ?_
  refine wr_call (V1 := wF f fa fb fc cI cZ n pa (upd (upd va j (va k)) k (va j)) mk) ⟨hx, hb, hml, hown, hts⟩ (c_X0_putValue l D cI cZ f fa fb fc n pa (upd va j (va k)) mk k hk hn (va j)) (cwV 2 hts gX0_swapValues_X0_putValue rfl rfl rfl (by decide +kernel) ⟨Nat.le_of_ble_eq_true rfl, Nat.le_of_ble_eq_true rfl⟩) hP hK hD hS [0, 1, 2, 3] [] [0, 1, 2, 3] rfl rfl (by decide) rfl rfl rfl rfl rfl hl rfl (Nat.le_of_ble_eq_true rfl) dX0_swapValues_19 ⟨Nat.zero_le _, Nat.zero_le _⟩ (fun H locs hP hD hS => ?_)
  exact wr_v hx hb hr hlocks hP hS dX0_swapValues_22
set_option maxHeartbeats 4000000 in
set_option maxRecDepth 100000 in
theorem c_X0_isMarked (l : Launch) (D : va_G) (cI cZ : ClassId) (f : Nat) (fa : Nat) (fb : Nat) (fc : Nat) (n : Nat) (pa : Nat → Int32) (va : Nat → Int32) (mk : Nat → Bool) (j : Nat) (hj : j < n) (hn : n ≤ 64) : RdM l yX0_isMarked wsX0_isMarked 1 21 D cI cZ (wF f fa fb fc cI cZ n pa va mk) [.ref f, .int (nI j)] (bI (mk j)) := by
  refine RdM.of (cc := cX0_isMarked) (maxL := 2) (ret := (some .boolean)) (by decide) rfl (Nat.le_of_ble_eq_true rfl) ?_
  intro p e s m below meth c hx hb hr hml hown hts hlocks hP hK ls hl
  have hown : s.vm.findClass RX0 = some m.cls := hown
  have hl : lv_has ls 2 [(0, .ref f), (1, .int (nI j))] := hl
  have hf22 := hts (.fieldLink RX0 22 "DynamicForest$Forest" "marks" "[Z") (by decide +kernel)
  have hin0 : ∀ w ∈ u_ws RX0 TX0 4, w ∈ wsX0_isMarked := by decide +kernel
  refine lv_aload_n hx hb dX0_isMarked_0 rfl (lv_at hl 0 rfl) ?_
  refine lv_iload_n hx hb dX0_isMarked_1 rfl (lv_at hl 1 rfl) ?_
  refine rd_call ⟨hx, hb, hml, hown, hts⟩ (c_X0_has l D cI cZ f fa fb fc n pa va mk (nI j)) (cwV 1 hts gX0_isMarked_X0_has rfl rfl rfl (by decide +kernel) ⟨Nat.le_of_ble_eq_true rfl, Nat.le_of_ble_eq_true rfl⟩) hP hK rfl rfl rfl hl rfl (Nat.le_of_ble_eq_true rfl) dX0_isMarked_2 ⟨Nat.zero_le _, Nat.zero_le _⟩ ?_
  refine lv_if_eq (tgt := 21) hx hb dX0_isMarked_5 (by decide) (fun c_1 => ?_) (fun c_1 => ?_)
  · skip
    have c_1 := bI_0 c_1
    exact hasB_x hj hn c_1
  · skip
    have c_1 := bI_1 c_1
    refine lv_aload_n hx hb dX0_isMarked_8 rfl (lv_at hl 0 rfl) ?_
    refine va_get (D := D) (ci := 0) (v := .ref fc) (C := RX0) (T := TX0) (N := 4) hx hb hts hin0 hown hK hP 0 rfl rfl 3 (by decide) hf22 (fun _ h9 => h9) rfl dX0_isMarked_9 ?_
    refine lv_iload_n hx hb dX0_isMarked_12 rfl (lv_at hl 1 rfl) ?_
    refine ar_z hx hb hK hP 3 rfl (k := j) (by omega) (by decide) dX0_isMarked_13 ?_
    refine lv_if_eq (tgt := 21) hx hb dX0_isMarked_14 (by decide) (fun c_2 => ?_) (fun c_2 => ?_)
    · skip
      have c_2 := bI_0 c_2
      refine lv_iconst (v := 0) hx hb dX0_isMarked_21 (by decide) ?_
      exact rd_z hx hb hr hlocks (by rw [c_2]; rfl) dX0_isMarked_22
    · skip
      have c_2 := bI_1 c_2
      refine lv_iconst (v := 1) hx hb dX0_isMarked_17 (by decide) ?_
      refine lv_goto (tgt := 22) hx hb dX0_isMarked_18 (by decide) ?_
      exact rd_z hx hb hr hlocks (by rw [c_2]; rfl) dX0_isMarked_22
set_option maxHeartbeats 4000000 in
set_option maxRecDepth 100000 in
theorem c_X0_putMark (l : Launch) (D : va_G) (cI cZ : ClassId) (f : Nat) (fa : Nat) (fb : Nat) (fc : Nat) (n : Nat) (pa : Nat → Int32) (va : Nat → Int32) (mk : Nat → Bool) (j : Nat) (hj : j < n) (hn : n ≤ 64) (on : Bool) : WrM l yX0_putMark wsX0_putMark 1 21 D cI cZ (wF f fa fb fc cI cZ n pa va mk) (wF f fa fb fc cI cZ n pa va (bset mk j on)) [.ref f, .int (nI j), .int (bI on)] none := by
  refine WrM.of (cc := cX0_putMark) (maxL := 3) (ret := none) (by decide) rfl (Nat.le_of_ble_eq_true rfl) ?_
  intro p e s m below meth c hx hb hr hml hown hts hlocks hP hK hD hS ls hl
  have hown : s.vm.findClass RX0 = some m.cls := hown
  have hl : lv_has ls 3 [(0, .ref f), (1, .int (nI j)), (2, .int (bI on))] := hl
  have hP : va_P D vwCl (wF f fa fb fc cI cZ n pa va mk) s.heap := hP
  have hf22 := hts (.fieldLink RX0 22 "DynamicForest$Forest" "marks" "[Z") (by decide +kernel)
  have hin0 : ∀ w ∈ u_ws RX0 TX0 4, w ∈ wsX0_putMark := by decide +kernel
  refine lv_aload_n hx hb dX0_putMark_0 rfl (lv_at hl 0 rfl) ?_
  refine lv_iload_n hx hb dX0_putMark_1 rfl (lv_at hl 1 rfl) ?_
  refine rd_call ⟨hx, hb, hml, hown, hts⟩ (c_X0_has l D cI cZ f fa fb fc n pa va mk (nI j)) (cwV 1 hts gX0_putMark_X0_has rfl rfl rfl (by decide +kernel) ⟨Nat.le_of_ble_eq_true rfl, Nat.le_of_ble_eq_true rfl⟩) hP hK rfl rfl rfl hl rfl (Nat.le_of_ble_eq_true rfl) dX0_putMark_2 ⟨Nat.zero_le _, Nat.zero_le _⟩ ?_
  refine lv_if_eq (tgt := 15) hx hb dX0_putMark_5 (by decide) (fun c_1 => ?_) (fun c_1 => ?_)
  · skip
    have c_1 := bI_0 c_1
    exact hasB_x hj hn c_1
  · skip
    have c_1 := bI_1 c_1
    refine lv_aload_n hx hb dX0_putMark_8 rfl (lv_at hl 0 rfl) ?_
    refine va_get (D := D) (ci := 0) (v := .ref fc) (C := RX0) (T := TX0) (N := 4) hx hb hts hin0 hown hK hP 0 rfl rfl 3 (by decide) hf22 (fun _ h9 => h9) rfl dX0_putMark_9 ?_
    refine lv_iload_n hx hb dX0_putMark_12 rfl (lv_at hl 1 rfl) ?_
    refine lv_iload_n hx hb dX0_putMark_13 rfl (lv_at hl 2 rfl) ?_
    refine ar_zs hx hb hK hP hD hS 3 rfl (k := j) (by omega) (by decide) (bI_vnar on) dX0_putMark_14 (fun H locs hP hD hS => ?_)
    have hP : va_P D vwCl (wFr f fa fb fc cI cZ n pa va (upd (fun z_ => bI (mk z_)) j (bI on))) H := hP
    rw [bset_eq] at hP
    have hD : va_D (adr (wF f fa fb fc cI cZ n pa va mk)) (wF f fa fb fc cI cZ n pa va (bset mk j on)) := vd_same hD rfl
    exact wr_v hx hb hr hlocks hP hS dX0_putMark_15
set_option maxHeartbeats 4000000 in
set_option maxRecDepth 100000 in
theorem c_X0_startAnew (l : Launch) (D : va_G) (cI cZ : ClassId) (f : Nat) (fa : Nat) (fb : Nat) (fc : Nat) (n : Nat) (pa : Nat → Int32) (va : Nat → Int32) (mk : Nat → Bool) (k : Nat) (hk : k ≤ 64) : WrM l yX0_startAnew wsX0_startAnew 0 0 D cI cZ (wF f fa fb fc cI cZ n pa va mk) (wF f fa fb fc cI cZ k (fun _ => -1) (fun _ => 0) (fun _ => false)) [.ref f, .int (nI k)] none := by
  refine WrM.of (cc := cX0_startAnew) (maxL := 3) (ret := none) (by decide) rfl (Nat.le_of_ble_eq_true rfl) ?_
  intro p e s m below meth c hx hb hr hml hown hts hlocks hP hK hD hS ls hl
  have hown : s.vm.findClass RX0 = some m.cls := hown
  have hl : lv_has ls 3 [(0, .ref f), (1, .int (nI k))] := hl
  have hP : va_P D vwCl (wF f fa fb fc cI cZ n pa va mk) s.heap := hP
  have hf9 := hts (.fieldLink RX0 9 "DynamicForest$Forest" "size" "I") (by decide +kernel)
  have hf15 := hts (.fieldLink RX0 15 "DynamicForest$Forest" "parents" "[I") (by decide +kernel)
  have hf19 := hts (.fieldLink RX0 19 "DynamicForest$Forest" "values" "[I") (by decide +kernel)
  have hf22 := hts (.fieldLink RX0 22 "DynamicForest$Forest" "marks" "[Z") (by decide +kernel)
  have hin0 : ∀ w ∈ u_ws RX0 TX0 4, w ∈ wsX0_startAnew := by decide +kernel
  refine lv_aload_n hx hb dX0_startAnew_0 rfl (lv_at hl 0 rfl) ?_
  refine lv_iload_n hx hb dX0_startAnew_1 rfl (lv_at hl 1 rfl) ?_
  refine va_put (D := D) (ci := 0) (v := .int (nI k)) (ty := .int) (C := RX0) (T := TX0) (N := 4) hx hb hts hin0 tyX0 tyX0_ok nmX0 hown hK hP hD hS 0 rfl rfl 0 (by decide) hf9 (fun _ h9 => h9) rfl (by decide +kernel) rfl rfl (Nat.le_of_ble_eq_true rfl) dX0_startAnew_2 (fun H locs hP hD hS => ?_)
  have hP : va_P D vwCl (wF f fa fb fc cI cZ k pa va mk) H := hP
  have hD : va_D (adr (wF f fa fb fc cI cZ n pa va mk)) (wF f fa fb fc cI cZ k pa va mk) := vd_same hD rfl
  refine lv_iconst (v := nI 0) hx hb dX0_startAnew_5 (by decide) ?_
  refine lv_istore_n (lv' := [(2, .int (nI 0)), (0, .ref f), (1, .int (nI k))]) hx hb dX0_startAnew_6 rfl hl (by decide) rfl (fun ls hl => ?_)
  have L7 : ∀ (k_ : Nat) (i : Nat), i ≤ 64 → 64 - i < k_ → ∀ (H : Heap) (locs : List Loc), va_P D vwCl (wF f fa fb fc cI cZ k (fillI i (fun _ => -1) pa) (fillI i (fun _ => 0) va) (fillB i (fun _ => false) mk)) H → va_D (adr (wF f fa fb fc cI cZ n pa va mk)) (wF f fa fb fc cI cZ k (fillI i (fun _ => -1) pa) (fillI i (fun _ => 0) va) (fillB i (fun _ => false) mk)) → va_S (adr (wF f fa fb fc cI cZ n pa va mk)) s.heap H locs → ∀ ls, lv_has ls 3 [(0, .ref f), (1, .int (nI k)), (2, .int (nI i))] → Ww0 p l e wsX0_startAnew 0 0 s m [.ref f, .int (nI k)] below meth c D (wF f fa fb fc cI cZ n pa va mk) (wF f fa fb fc cI cZ k (fun _ => -1) (fun _ => 0) (fun _ => false)) none H locs (F0 m 7 ls []) := by
    intro k_
    induction k_ with
    | zero => intro i hi hk_; exact absurd hk_ (Nat.not_lt_zero _)
    | succ k_ ih =>
      intro i hi hk_ H locs hP hD hS ls hl
      refine lv_iload_n hx hb dX0_startAnew_7 rfl (lv_at hl 2 rfl) ?_
      refine lv_bipush (v := 64) hx hb dX0_startAnew_8 (by decide) ?_
      refine lv_icmp_ge (tgt := 40) hx hb dX0_startAnew_10 (by decide) (fun c_1 => ?_) (fun c_1 => ?_)
      · skip
        have c_1 := cn_le (a := 64) (b := i) (by omega) (by omega) c_1
        have e64 : i = 64 := by omega
        subst e64
        have hP := ar_sw (g := fun _ => -1) hP 1 rfl (fun j h => fillI_lt _ _ h)
        have hP := ar_sw (g := fun _ => 0) hP 2 rfl (fun j h => fillI_lt _ _ h)
        have hP := ar_sw (g := fun i => bI false) hP 3 rfl (fun j h => by show bI _ = bI false; rw [fillB_lt _ _ h])
        exact wr_v hx hb hr hlocks hP hS dX0_startAnew_40
      · skip
        have c_1 := cn_nle (a := 64) (b := i) (by omega) (by omega) c_1
        refine lv_aload_n hx hb dX0_startAnew_13 rfl (lv_at hl 0 rfl) ?_
        refine va_get (D := D) (ci := 0) (v := .ref fa) (C := RX0) (T := TX0) (N := 4) hx hb hts hin0 hown hK hP 0 rfl rfl 1 (by decide) hf15 (fun _ h9 => h9) rfl dX0_startAnew_14 ?_
        refine lv_iload_n hx hb dX0_startAnew_17 rfl (lv_at hl 2 rfl) ?_
        refine lv_iconst (v := -1) hx hb dX0_startAnew_18 (by decide) ?_
        refine ar_is hx hb hK hP hD hS 1 rfl (k := i) (by omega) (by decide) dX0_startAnew_19 (fun H locs hP hD hS => ?_)
        have hP : va_P D vwCl (wF f fa fb fc cI cZ k (upd (fillI i (fun _ => -1) pa) i (-1)) (fillI i (fun _ => 0) va) (fillB i (fun _ => false) mk)) H := hP
        rw [fillI_c] at hP
        have hD : va_D (adr (wF f fa fb fc cI cZ n pa va mk)) (wF f fa fb fc cI cZ k (fillI (i + 1) (fun _ => -1) pa) (fillI i (fun _ => 0) va) (fillB i (fun _ => false) mk)) := vd_same hD rfl
        refine lv_aload_n hx hb dX0_startAnew_20 rfl (lv_at hl 0 rfl) ?_
        refine va_get (D := D) (ci := 0) (v := .ref fb) (C := RX0) (T := TX0) (N := 4) hx hb hts hin0 hown hK hP 0 rfl rfl 2 (by decide) hf19 (fun _ h9 => h9) rfl dX0_startAnew_21 ?_
        refine lv_iload_n hx hb dX0_startAnew_24 rfl (lv_at hl 2 rfl) ?_
        refine lv_iconst (v := 0) hx hb dX0_startAnew_25 (by decide) ?_
        refine ar_is hx hb hK hP hD hS 2 rfl (k := i) (by omega) (by decide) dX0_startAnew_26 (fun H locs hP hD hS => ?_)
        have hP : va_P D vwCl (wF f fa fb fc cI cZ k (fillI (i + 1) (fun _ => -1) pa) (upd (fillI i (fun _ => 0) va) i 0) (fillB i (fun _ => false) mk)) H := hP
        rw [fillI_c] at hP
        have hD : va_D (adr (wF f fa fb fc cI cZ n pa va mk)) (wF f fa fb fc cI cZ k (fillI (i + 1) (fun _ => -1) pa) (fillI (i + 1) (fun _ => 0) va) (fillB i (fun _ => false) mk)) := vd_same hD rfl
        refine lv_aload_n hx hb dX0_startAnew_27 rfl (lv_at hl 0 rfl) ?_
        refine va_get (D := D) (ci := 0) (v := .ref fc) (C := RX0) (T := TX0) (N := 4) hx hb hts hin0 hown hK hP 0 rfl rfl 3 (by decide) hf22 (fun _ h9 => h9) rfl dX0_startAnew_28 ?_
        refine lv_iload_n hx hb dX0_startAnew_31 rfl (lv_at hl 2 rfl) ?_
        refine lv_iconst (v := 0) hx hb dX0_startAnew_32 (by decide) ?_
        refine ar_zs hx hb hK hP hD hS 3 rfl (k := i) (by omega) (by decide) rfl dX0_startAnew_33 (fun H locs hP hD hS => ?_)
        have hP : va_P D vwCl (wFr f fa fb fc cI cZ k (fillI (i + 1) (fun _ => -1) pa) (fillI (i + 1) (fun _ => 0) va) (upd (fun z_ => bI ((fillB i (fun _ => false) mk) z_)) i 0)) H := hP
        rw [fillB_c] at hP
        have hD : va_D (adr (wF f fa fb fc cI cZ n pa va mk)) (wF f fa fb fc cI cZ k (fillI (i + 1) (fun _ => -1) pa) (fillI (i + 1) (fun _ => 0) va) (fillB (i + 1) (fun _ => false) mk)) := vd_same hD rfl
        refine lv_iinc (v := nI (i + 1)) (lv' := [(2, .int (nI (i + 1))), (0, .ref f), (1, .int (nI k))]) hx hb dX0_startAnew_34 hl (k := 2) rfl (nI_1 i) (by decide) rfl (fun ls hl => ?_)
        refine lv_goto (tgt := 7) hx hb dX0_startAnew_37 (by decide) ?_
        exact ih (i + 1) (by omega) (by omega) _ _ hP hD hS ls (lv_sub hl [1, 2, 0] rfl)
  have hP : va_P D vwCl (wF f fa fb fc cI cZ k (fillI 0 (fun _ => -1) pa) (fillI 0 (fun _ => 0) va) (fillB 0 (fun _ => false) mk)) H := by rw [fillI_0, fillI_0, fillB_0]; exact hP
  have hD : va_D (adr (wF f fa fb fc cI cZ n pa va mk)) (wF f fa fb fc cI cZ k (fillI 0 (fun _ => -1) pa) (fillI 0 (fun _ => 0) va) (fillB 0 (fun _ => false) mk)) := vd_same hD rfl
  exact L7 (64 - 0 + 1) 0 (Nat.zero_le _) (Nat.lt_succ_self _) _ _ hP hD hS ls (lv_sub hl [1, 2, 0] rfl)
set_option maxHeartbeats 4000000 in
set_option maxRecDepth 100000 in
theorem c_X0_copyFrom (l : Launch) (D : va_G) (cI cZ : ClassId) (f : Nat) (fa : Nat) (fb : Nat) (fc : Nat) (n : Nat) (pa : Nat → Int32) (va : Nat → Int32) (mk : Nat → Bool) (g : Nat) (ga : Nat) (gb : Nat) (gc : Nat) (n2 : Nat) (pa2 : Nat → Int32) (va2 : Nat → Int32) (mk2 : Nat → Bool) : WrM l yX0_copyFrom wsX0_copyFrom 0 0 D cI cZ (wF f fa fb fc cI cZ n pa va mk ++ wF g ga gb gc cI cZ n2 pa2 va2 mk2) (wF f fa fb fc cI cZ n2 pa2 va2 mk2 ++ wF g ga gb gc cI cZ n2 pa2 va2 mk2) [.ref f, .ref g] none := by
  refine WrM.of (cc := cX0_copyFrom) (maxL := 3) (ret := none) (by decide) rfl (Nat.le_of_ble_eq_true rfl) ?_
  intro p e s m below meth c hx hb hr hml hown hts hlocks hP hK hD hS ls hl
  have hown : s.vm.findClass RX0 = some m.cls := hown
  have hl : lv_has ls 3 [(0, .ref f), (1, .ref g)] := hl
  have hP : va_P D vwCl (wF f fa fb fc cI cZ n pa va mk ++ wF g ga gb gc cI cZ n2 pa2 va2 mk2) s.heap := hP
  have hf9 := hts (.fieldLink RX0 9 "DynamicForest$Forest" "size" "I") (by decide +kernel)
  have hf15 := hts (.fieldLink RX0 15 "DynamicForest$Forest" "parents" "[I") (by decide +kernel)
  have hf19 := hts (.fieldLink RX0 19 "DynamicForest$Forest" "values" "[I") (by decide +kernel)
  have hf22 := hts (.fieldLink RX0 22 "DynamicForest$Forest" "marks" "[Z") (by decide +kernel)
  have hin0 : ∀ w ∈ u_ws RX0 TX0 4, w ∈ wsX0_copyFrom := by decide +kernel
  refine lv_aload_n hx hb dX0_copyFrom_0 rfl (lv_at hl 0 rfl) ?_
  refine lv_aload_n hx hb dX0_copyFrom_1 rfl (lv_at hl 1 rfl) ?_
  refine va_get (D := D) (ci := 0) (v := .int (nI n2)) (C := RX0) (T := TX0) (N := 4) hx hb hts hin0 hown hK hP 4 rfl rfl 0 (by decide) hf9 (fun _ h9 => h9) rfl dX0_copyFrom_2 ?_
  refine va_put (D := D) (ci := 0) (v := .int (nI n2)) (ty := .int) (C := RX0) (T := TX0) (N := 4) hx hb hts hin0 tyX0 tyX0_ok nmX0 hown hK hP hD hS 0 rfl rfl 0 (by decide) hf9 (fun _ h9 => h9) rfl (by decide +kernel) rfl rfl (Nat.le_of_ble_eq_true rfl) dX0_copyFrom_5 (fun H locs hP hD hS => ?_)
  have hP : va_P D vwCl (wF f fa fb fc cI cZ n2 pa va mk ++ wF g ga gb gc cI cZ n2 pa2 va2 mk2) H := hP
  have hD : va_D (adr (wF f fa fb fc cI cZ n pa va mk ++ wF g ga gb gc cI cZ n2 pa2 va2 mk2)) (wF f fa fb fc cI cZ n2 pa va mk ++ wF g ga gb gc cI cZ n2 pa2 va2 mk2) := vd_same hD rfl
  refine lv_iconst (v := nI 0) hx hb dX0_copyFrom_8 (by decide) ?_
  refine lv_istore_n (lv' := [(2, .int (nI 0)), (0, .ref f), (1, .ref g)]) hx hb dX0_copyFrom_9 rfl hl (by decide) rfl (fun ls hl => ?_)
  have L10 : ∀ (k_ : Nat) (i : Nat), i ≤ 64 → 64 - i < k_ → ∀ (H : Heap) (locs : List Loc), va_P D vwCl (wF f fa fb fc cI cZ n2 (fillI i pa2 pa) (fillI i va2 va) (fillB i mk2 mk) ++ wF g ga gb gc cI cZ n2 pa2 va2 mk2) H → va_D (adr (wF f fa fb fc cI cZ n pa va mk ++ wF g ga gb gc cI cZ n2 pa2 va2 mk2)) (wF f fa fb fc cI cZ n2 (fillI i pa2 pa) (fillI i va2 va) (fillB i mk2 mk) ++ wF g ga gb gc cI cZ n2 pa2 va2 mk2) → va_S (adr (wF f fa fb fc cI cZ n pa va mk ++ wF g ga gb gc cI cZ n2 pa2 va2 mk2)) s.heap H locs → ∀ ls, lv_has ls 3 [(0, .ref f), (1, .ref g), (2, .int (nI i))] → Ww0 p l e wsX0_copyFrom 0 0 s m [.ref f, .ref g] below meth c D (wF f fa fb fc cI cZ n pa va mk ++ wF g ga gb gc cI cZ n2 pa2 va2 mk2) (wF f fa fb fc cI cZ n2 pa2 va2 mk2 ++ wF g ga gb gc cI cZ n2 pa2 va2 mk2) none H locs (F0 m 10 ls []) := by
    intro k_
    induction k_ with
    | zero => intro i hi hk_; exact absurd hk_ (Nat.not_lt_zero _)
    | succ k_ ih =>
      intro i hi hk_ H locs hP hD hS ls hl
      refine lv_iload_n hx hb dX0_copyFrom_10 rfl (lv_at hl 2 rfl) ?_
      refine lv_bipush (v := 64) hx hb dX0_copyFrom_11 (by decide) ?_
      refine lv_icmp_ge (tgt := 58) hx hb dX0_copyFrom_13 (by decide) (fun c_1 => ?_) (fun c_1 => ?_)
      · skip
        have c_1 := cn_le (a := 64) (b := i) (by omega) (by omega) c_1
        have e64 : i = 64 := by omega
        subst e64
        have hP := ar_sw (g := pa2) hP 1 rfl (fun j h => fillI_lt _ _ h)
        have hP := ar_sw (g := va2) hP 2 rfl (fun j h => fillI_lt _ _ h)
        have hP := ar_sw (g := fun i => bI (mk2 i)) hP 3 rfl (fun j h => by show bI _ = bI _; rw [fillB_lt _ _ h])
        exact wr_v hx hb hr hlocks hP hS dX0_copyFrom_58
      · skip
        have c_1 := cn_nle (a := 64) (b := i) (by omega) (by omega) c_1
        refine lv_aload_n hx hb dX0_copyFrom_16 rfl (lv_at hl 0 rfl) ?_
        refine va_get (D := D) (ci := 0) (v := .ref fa) (C := RX0) (T := TX0) (N := 4) hx hb hts hin0 hown hK hP 0 rfl rfl 1 (by decide) hf15 (fun _ h9 => h9) rfl dX0_copyFrom_17 ?_
        refine lv_iload_n hx hb dX0_copyFrom_20 rfl (lv_at hl 2 rfl) ?_
        refine lv_aload_n hx hb dX0_copyFrom_21 rfl (lv_at hl 1 rfl) ?_
        refine va_get (D := D) (ci := 0) (v := .ref ga) (C := RX0) (T := TX0) (N := 4) hx hb hts hin0 hown hK hP 4 rfl rfl 1 (by decide) hf15 (fun _ h9 => h9) rfl dX0_copyFrom_22 ?_
        refine lv_iload_n hx hb dX0_copyFrom_25 rfl (lv_at hl 2 rfl) ?_
        refine ar_i (tys := []) hx hb hK hP 5 rfl (k := i) (by omega) (by decide) dX0_copyFrom_26 ?_
        refine ar_is hx hb hK hP hD hS 1 rfl (k := i) (by omega) (by decide) dX0_copyFrom_27 (fun H locs hP hD hS => ?_)
        have hP : va_P D vwCl (wF f fa fb fc cI cZ n2 (upd (fillI i pa2 pa) i (pa2 i)) (fillI i va2 va) (fillB i mk2 mk) ++ wF g ga gb gc cI cZ n2 pa2 va2 mk2) H := hP
        rw [fillI_s] at hP
        have hD : va_D (adr (wF f fa fb fc cI cZ n pa va mk ++ wF g ga gb gc cI cZ n2 pa2 va2 mk2)) (wF f fa fb fc cI cZ n2 (fillI (i + 1) pa2 pa) (fillI i va2 va) (fillB i mk2 mk) ++ wF g ga gb gc cI cZ n2 pa2 va2 mk2) := vd_same hD rfl
        refine lv_aload_n hx hb dX0_copyFrom_28 rfl (lv_at hl 0 rfl) ?_
        refine va_get (D := D) (ci := 0) (v := .ref fb) (C := RX0) (T := TX0) (N := 4) hx hb hts hin0 hown hK hP 0 rfl rfl 2 (by decide) hf19 (fun _ h9 => h9) rfl dX0_copyFrom_29 ?_
        refine lv_iload_n hx hb dX0_copyFrom_32 rfl (lv_at hl 2 rfl) ?_
        refine lv_aload_n hx hb dX0_copyFrom_33 rfl (lv_at hl 1 rfl) ?_
        refine va_get (D := D) (ci := 0) (v := .ref gb) (C := RX0) (T := TX0) (N := 4) hx hb hts hin0 hown hK hP 4 rfl rfl 2 (by decide) hf19 (fun _ h9 => h9) rfl dX0_copyFrom_34 ?_
        refine lv_iload_n hx hb dX0_copyFrom_37 rfl (lv_at hl 2 rfl) ?_
        refine ar_i (tys := []) hx hb hK hP 6 rfl (k := i) (by omega) (by decide) dX0_copyFrom_38 ?_
        refine ar_is hx hb hK hP hD hS 2 rfl (k := i) (by omega) (by decide) dX0_copyFrom_39 (fun H locs hP hD hS => ?_)
        have hP : va_P D vwCl (wF f fa fb fc cI cZ n2 (fillI (i + 1) pa2 pa) (upd (fillI i va2 va) i (va2 i)) (fillB i mk2 mk) ++ wF g ga gb gc cI cZ n2 pa2 va2 mk2) H := hP
        rw [fillI_s] at hP
        have hD : va_D (adr (wF f fa fb fc cI cZ n pa va mk ++ wF g ga gb gc cI cZ n2 pa2 va2 mk2)) (wF f fa fb fc cI cZ n2 (fillI (i + 1) pa2 pa) (fillI (i + 1) va2 va) (fillB i mk2 mk) ++ wF g ga gb gc cI cZ n2 pa2 va2 mk2) := vd_same hD rfl
        refine lv_aload_n hx hb dX0_copyFrom_40 rfl (lv_at hl 0 rfl) ?_
        refine va_get (D := D) (ci := 0) (v := .ref fc) (C := RX0) (T := TX0) (N := 4) hx hb hts hin0 hown hK hP 0 rfl rfl 3 (by decide) hf22 (fun _ h9 => h9) rfl dX0_copyFrom_41 ?_
        refine lv_iload_n hx hb dX0_copyFrom_44 rfl (lv_at hl 2 rfl) ?_
        refine lv_aload_n hx hb dX0_copyFrom_45 rfl (lv_at hl 1 rfl) ?_
        refine va_get (D := D) (ci := 0) (v := .ref gc) (C := RX0) (T := TX0) (N := 4) hx hb hts hin0 hown hK hP 4 rfl rfl 3 (by decide) hf22 (fun _ h9 => h9) rfl dX0_copyFrom_46 ?_
        refine lv_iload_n hx hb dX0_copyFrom_49 rfl (lv_at hl 2 rfl) ?_
        refine ar_z hx hb hK hP 7 rfl (k := i) (by omega) (by decide) dX0_copyFrom_50 ?_
        refine ar_zs hx hb hK hP hD hS 3 rfl (k := i) (by omega) (by decide) (bI_vnar _) dX0_copyFrom_51 (fun H locs hP hD hS => ?_)
        have hP : va_P D vwCl (wFr f fa fb fc cI cZ n2 (fillI (i + 1) pa2 pa) (fillI (i + 1) va2 va) (upd (fun z_ => bI ((fillB i mk2 mk) z_)) i (bI (mk2 i))) ++ wF g ga gb gc cI cZ n2 pa2 va2 mk2) H := hP
        rw [fillB_s] at hP
        have hD : va_D (adr (wF f fa fb fc cI cZ n pa va mk ++ wF g ga gb gc cI cZ n2 pa2 va2 mk2)) (wF f fa fb fc cI cZ n2 (fillI (i + 1) pa2 pa) (fillI (i + 1) va2 va) (fillB (i + 1) mk2 mk) ++ wF g ga gb gc cI cZ n2 pa2 va2 mk2) := vd_same hD rfl
        refine lv_iinc (v := nI (i + 1)) (lv' := [(2, .int (nI (i + 1))), (0, .ref f), (1, .ref g)]) hx hb dX0_copyFrom_52 hl (k := 2) rfl (nI_1 i) (by decide) rfl (fun ls hl => ?_)
        refine lv_goto (tgt := 10) hx hb dX0_copyFrom_55 (by decide) ?_
        exact ih (i + 1) (by omega) (by omega) _ _ hP hD hS ls (lv_sub hl [1, 2, 0] rfl)
  have hP : va_P D vwCl (wF f fa fb fc cI cZ n2 (fillI 0 pa2 pa) (fillI 0 va2 va) (fillB 0 mk2 mk) ++ wF g ga gb gc cI cZ n2 pa2 va2 mk2) H := by rw [fillI_0, fillI_0, fillB_0]; exact hP
  have hD : va_D (adr (wF f fa fb fc cI cZ n pa va mk ++ wF g ga gb gc cI cZ n2 pa2 va2 mk2)) (wF f fa fb fc cI cZ n2 (fillI 0 pa2 pa) (fillI 0 va2 va) (fillB 0 mk2 mk) ++ wF g ga gb gc cI cZ n2 pa2 va2 mk2) := vd_same hD rfl
  exact L10 (64 - 0 + 1) 0 (Nat.zero_le _) (Nat.lt_succ_self _) _ _ hP hD hS ls (lv_sub hl [1, 2, 0] rfl)
end
section
set_option maxHeartbeats 4000000 in
set_option maxRecDepth 100000 in
theorem c_X0_countRoots (l : Launch) (D : va_G) (cI cZ : ClassId) (f : Nat) (fa : Nat) (fb : Nat) (fc : Nat) (n : Nat) (G : Nat → Nat) (va : Nat → Int32) (mk : Nat → Bool) (F : fo_ok n G) : RdM l yX0_countRoots wsX0_countRoots 3 63 D cI cZ (wF f fa fb fc cI cZ n (fo_cp G) va mk) [.ref f] (nI (fo_cnt (fun v => decide (G v = v)) n)) := by
  refine RdM.of (cc := cX0_countRoots) (maxL := 3) (ret := (some .int)) (by decide) rfl (Nat.le_of_ble_eq_true rfl) ?_
  intro p e s m below meth c hx hb hr hml hown hts hlocks hP hK ls hl
  have hown : s.vm.findClass RX0 = some m.cls := hown
  have hl : lv_has ls 3 [(0, .ref f)] := hl
  have hf9 := hts (.fieldLink RX0 9 "DynamicForest$Forest" "size" "I") (by decide +kernel)
  have hin0 : ∀ w ∈ u_ws RX0 TX0 4, w ∈ wsX0_countRoots := by decide +kernel
  have hn : n ≤ 64 := F.2.1
  refine lv_iconst (v := nI 0) hx hb dX0_countRoots_0 (by decide) ?_
  refine lv_istore_n (lv' := [(1, .int (nI 0)), (0, .ref f)]) hx hb dX0_countRoots_1 rfl hl (by decide) rfl (fun ls hl => ?_)
  refine lv_iconst (v := nI 0) hx hb dX0_countRoots_2 (by decide) ?_
  refine lv_istore_n (lv' := [(2, .int (nI 0)), (1, .int (nI 0)), (0, .ref f)]) hx hb dX0_countRoots_3 rfl hl (by decide) rfl (fun ls hl => ?_)
  have L4 : ∀ (k_ : Nat) (i : Nat), i ≤ n → n - i < k_ → ∀ ls, lv_has ls 3 [(0, .ref f), (1, .int (nI (fo_cnt (fun v => decide (G v = v)) i))), (2, .int (nI i))] → Wr0 p l e wsX0_countRoots 3 63 s m [.ref f] below meth c (nI (fo_cnt (fun v => decide (G v = v)) n)) (F0 m 4 ls []) := by
    intro k_
    induction k_ with
    | zero => intro i hi hk_; exact absurd hk_ (Nat.not_lt_zero _)
    | succ k_ ih =>
      intro i hi hk_ ls hl
      refine lv_iload_n hx hb dX0_countRoots_4 rfl (lv_at hl 2 rfl) ?_
      refine lv_aload_n hx hb dX0_countRoots_5 rfl (lv_at hl 0 rfl) ?_
      refine va_get (D := D) (ci := 0) (v := .int (nI n)) (C := RX0) (T := TX0) (N := 4) hx hb hts hin0 hown hK hP 0 rfl rfl 0 (by decide) hf9 (fun _ h9 => h9) rfl dX0_countRoots_6 ?_
      refine lv_icmp_ge (tgt := 29) hx hb dX0_countRoots_9 (by decide) (fun c_1 => ?_) (fun c_1 => ?_)
      · skip
        have c_1 := cn_le (a := n) (b := i) (by omega) (by omega) c_1
        refine lv_iload_n hx hb dX0_countRoots_29 rfl (lv_at hl 1 rfl) ?_
        exact rd_i hx hb hr hlocks (by rw [show i = n by omega]) dX0_countRoots_30
      · skip
        have c_1 := cn_nle (a := n) (b := i) (by omega) (by omega) c_1
        refine lv_aload_n hx hb dX0_countRoots_12 rfl (lv_at hl 0 rfl) ?_
        refine lv_iload_n hx hb dX0_countRoots_13 rfl (lv_at hl 2 rfl) ?_
        refine rd_call ⟨hx, hb, hml, hown, hts⟩ (c_X0_isRoot l D cI cZ f fa fb fc n (fo_cp G) va mk i c_1 hn) (cwV 1 hts gX0_countRoots_X0_isRoot rfl rfl rfl (by decide +kernel) ⟨Nat.le_of_ble_eq_true rfl, Nat.le_of_ble_eq_true rfl⟩) hP hK rfl rfl rfl hl rfl (Nat.le_of_ble_eq_true rfl) dX0_countRoots_14 ⟨Nat.zero_le _, Nat.zero_le _⟩ ?_
        refine lv_if_eq (tgt := 23) hx hb dX0_countRoots_17 (by decide) (fun c_2 => ?_) (fun c_2 => ?_)
        · skip
          have c_2 := bI_0 c_2
          have c_2 : ¬ G i = i := by simpa [fo_cp_1 F c_1] using c_2
          refine lv_iinc (v := nI (i + 1)) (lv' := [(2, .int (nI (i + 1))), (0, .ref f), (1, .int (nI (fo_cnt (fun v => decide (G v = v)) i)))]) hx hb dX0_countRoots_23 hl (k := 2) rfl (nI_1 i) (by decide) rfl (fun ls hl => ?_)
          refine lv_goto (tgt := 4) hx hb dX0_countRoots_26 (by decide) ?_
          rw [← fo_cnt_f (f := (fun v => decide (G v = v))) (k := i) (by simp [c_2])] at hl
          exact ih (i + 1) (by omega) (by omega) ls (lv_sub hl [1, 2, 0] rfl)
        · skip
          have c_2 := bI_1 c_2
          have c_2 : G i = i := by simpa [fo_cp_1 F c_1] using c_2
          refine lv_iinc (v := nI ((fo_cnt (fun v => decide (G v = v)) i) + 1)) (lv' := [(1, .int (nI ((fo_cnt (fun v => decide (G v = v)) i) + 1))), (0, .ref f), (2, .int (nI i))]) hx hb dX0_countRoots_20 hl (k := 1) rfl (nI_1 (fo_cnt (fun v => decide (G v = v)) i)) (by decide) rfl (fun ls hl => ?_)
          refine lv_iinc (v := nI (i + 1)) (lv' := [(2, .int (nI (i + 1))), (1, .int (nI ((fo_cnt (fun v => decide (G v = v)) i) + 1))), (0, .ref f)]) hx hb dX0_countRoots_23 hl (k := 2) rfl (nI_1 i) (by decide) rfl (fun ls hl => ?_)
          refine lv_goto (tgt := 4) hx hb dX0_countRoots_26 (by decide) ?_
          rw [← fo_cnt_t (f := (fun v => decide (G v = v))) (k := i) (by simp [c_2])] at hl
          exact ih (i + 1) (by omega) (by omega) ls (lv_sub hl [2, 1, 0] rfl)
  exact L4 (n - 0 + 1) 0 (Nat.zero_le _) (Nat.lt_succ_self _) ls (lv_sub hl [2, 1, 0] rfl)
set_option maxHeartbeats 4000000 in
set_option maxRecDepth 100000 in
theorem c_X0_depthOf (l : Launch) (D : va_G) (cI cZ : ClassId) (f : Nat) (fa : Nat) (fb : Nat) (fc : Nat) (n : Nat) (G : Nat → Nat) (va : Nat → Int32) (mk : Nat → Bool) (F : fo_ok n G) (j : Nat) (hj : j < n) : RdM l yX0_depthOf wsX0_depthOf 2 42 D cI cZ (wF f fa fb fc cI cZ n (fo_cp G) va mk) [.ref f, .int (nI j)] (nI (fo_d G j)) := by
  refine RdM.of (cc := cX0_depthOf) (maxL := 4) (ret := (some .int)) (by decide) rfl (Nat.le_of_ble_eq_true rfl) ?_
  intro p e s m below meth c hx hb hr hml hown hts hlocks hP hK ls hl
  have hown : s.vm.findClass RX0 = some m.cls := hown
  have hl : lv_has ls 4 [(0, .ref f), (1, .int (nI j))] := hl
  have hn : n ≤ 64 := F.2.1
  refine lv_iconst (v := nI 0) hx hb dX0_depthOf_0 (by decide) ?_
  refine lv_istore_n (lv' := [(2, .int (nI 0)), (0, .ref f), (1, .int (nI j))]) hx hb dX0_depthOf_1 rfl hl (by decide) rfl (fun ls hl => ?_)
  refine lv_aload_n hx hb dX0_depthOf_2 rfl (lv_at hl 1 rfl) ?_
  refine lv_iload_n hx hb dX0_depthOf_3 rfl (lv_at hl 2 rfl) ?_
  refine rd_call ⟨hx, hb, hml, hown, hts⟩ (c_X0_parentOf l D cI cZ f fa fb fc n (fo_cp G) va mk (j) (hj) hn) (cwV 1 hts gX0_depthOf_X0_parentOf rfl rfl rfl (by decide +kernel) ⟨Nat.le_of_ble_eq_true rfl, Nat.le_of_ble_eq_true rfl⟩) hP hK rfl rfl rfl hl rfl (Nat.le_of_ble_eq_true rfl) dX0_depthOf_4 ⟨Nat.zero_le _, Nat.zero_le _⟩ ?_
  refine lv_istore_n (lv' := [(3, .int ((fo_cp G) (j))), (2, .int (nI 0)), (0, .ref f), (1, .int (nI j))]) hx hb dX0_depthOf_7 rfl hl (by decide) rfl (fun ls hl => ?_)
  have L8 : ∀ (k_ : Nat) (i : Nat), i ≤ fo_d G j → 64 - i < k_ → ∀ ls, lv_has ls 4 [(0, .ref f), (1, .int (nI j)), (2, .int (nI i)), (3, .int (fo_cp G (fo_up G i j)))] → Wr0 p l e wsX0_depthOf 2 42 s m [.ref f, .int (nI j)] below meth c (nI (fo_d G j)) (F0 m 8 ls []) := by
    intro k_
    induction k_ with
    | zero => intro i hi hk_; exact absurd hk_ (Nat.not_lt_zero _)
    | succ k_ ih =>
      intro i hi hk_ ls hl
      have hd63 := fo_d_le F j
      refine lv_iload_n hx hb dX0_depthOf_8 rfl (lv_at hl 2 rfl) ?_
      refine lv_bipush (v := 64) hx hb dX0_depthOf_9 (by decide) ?_
      refine lv_icmp_ge (tgt := 31) hx hb dX0_depthOf_11 (by decide) (fun c_1 => ?_) (fun c_1 => ?_)
      · skip
        have c_1 := cn_le (a := 64) (b := i) (by omega) (by omega) c_1
        exact absurd hd63 (by omega)
      · skip
        have c_1 := cn_nle (a := 64) (b := i) (by omega) (by omega) c_1
        refine lv_iload_n hx hb dX0_depthOf_14 rfl (lv_at hl 3 rfl) ?_
        refine lv_iconst (v := -1) hx hb dX0_depthOf_15 (by decide) ?_
        refine lv_icmp_eq (tgt := 31) hx hb dX0_depthOf_16 (by decide) (fun c_2 => ?_) (fun c_2 => ?_)
        · skip
          have c_2 := (fo_cp_1 F (fo_lt F hj i)).mp c_2
          refine lv_iload_n hx hb dX0_depthOf_31 rfl (lv_at hl 2 rfl) ?_
          exact rd_i hx hb hr hlocks (by rw [← fo_d_is F hi c_2]) dX0_depthOf_32
        · skip
          have c_2 : ¬ G (fo_up G i j) = fo_up G i j := fun q => c_2 ((fo_cp_1 F (fo_lt F hj i)).mpr q)
          rw [fo_cp_n c_2, ← fo_up_s G i j] at hl
          refine lv_aload_n hx hb dX0_depthOf_19 rfl (lv_at hl 0 rfl) ?_
          refine lv_iload_n hx hb dX0_depthOf_20 rfl (lv_at hl 3 rfl) ?_
          refine rd_call ⟨hx, hb, hml, hown, hts⟩ (c_X0_parentOf l D cI cZ f fa fb fc n (fo_cp G) va mk (fo_up G (i + 1) j) (fo_lt F hj _) hn) (cwV 1 hts gX0_depthOf_X0_parentOf rfl rfl rfl (by decide +kernel) ⟨Nat.le_of_ble_eq_true rfl, Nat.le_of_ble_eq_true rfl⟩) hP hK rfl rfl rfl hl rfl (Nat.le_of_ble_eq_true rfl) dX0_depthOf_21 ⟨Nat.zero_le _, Nat.zero_le _⟩ ?_
          refine lv_istore_n (lv' := [(3, .int ((fo_cp G) (fo_up G (i + 1) j))), (0, .ref f), (1, .int (nI j)), (2, .int (nI i))]) hx hb dX0_depthOf_24 rfl hl (by decide) rfl (fun ls hl => ?_)
          refine lv_iinc (v := nI (i + 1)) (lv' := [(2, .int (nI (i + 1))), (3, .int ((fo_cp G) (fo_up G (i + 1) j))), (0, .ref f), (1, .int (nI j))]) hx hb dX0_depthOf_25 hl (k := 3) rfl (nI_1 i) (by decide) rfl (fun ls hl => ?_)
          refine lv_goto (tgt := 8) hx hb dX0_depthOf_28 (by decide) ?_
          exact ih (i + 1) (fo_d_gt F hi c_2) (by omega) ls (lv_sub hl [2, 3, 0, 1] rfl)
  exact L8 (64 - 0 + 1) 0 (Nat.zero_le _) (Nat.lt_succ_self _) ls (lv_sub hl [2, 3, 1, 0] rfl)
set_option maxHeartbeats 4000000 in
set_option maxRecDepth 100000 in
theorem c_X0_climb (l : Launch) (D : va_G) (cI cZ : ClassId) (f : Nat) (fa : Nat) (fb : Nat) (fc : Nat) (n : Nat) (G : Nat → Nat) (va : Nat → Int32) (mk : Nat → Bool) (F : fo_ok n G) (j : Nat) (hj : j < n) (x : Int32) (k : Nat) (hk : k ≤ fo_d G j) (hxk : x = nI k ∨ (x < 0 ∧ k = 0)) : RdM l yX0_climb wsX0_climb 2 42 D cI cZ (wF f fa fb fc cI cZ n (fo_cp G) va mk) [.ref f, .int (nI j), .int x] (nI (fo_up G k j)) := by
  refine RdM.of (cc := cX0_climb) (maxL := 5) (ret := (some .int)) (by decide) rfl (Nat.le_of_ble_eq_true rfl) ?_
  intro p e s m below meth c hx hb hr hml hown hts hlocks hP hK ls hl
  have hown : s.vm.findClass RX0 = some m.cls := hown
  have hl : lv_has ls 5 [(0, .ref f), (1, .int (nI j)), (2, .int x)] := hl
  have hn : n ≤ 64 := F.2.1
  have hd63 := fo_d_le F j
  refine lv_iload_n hx hb dX0_climb_0 rfl (lv_at hl 1 rfl) ?_
  refine lv_istore_n (lv' := [(3, .int (nI j)), (0, .ref f), (1, .int (nI j)), (2, .int x)]) hx hb dX0_climb_1 rfl hl (by decide) rfl (fun ls hl => ?_)
  refine lv_iconst (v := nI 0) hx hb dX0_climb_2 (by decide) ?_
  refine lv_istore (lv' := [(4, .int (nI 0)), (3, .int (nI j)), (0, .ref f), (1, .int (nI j)), (2, .int x)]) hx hb dX0_climb_3 hl (by decide) rfl (fun ls hl => ?_)
  have L5 : ∀ (k_ : Nat) (i : Nat), i ≤ k → 64 - i < k_ → ∀ ls, lv_has ls 5 [(0, .ref f), (1, .int (nI j)), (2, .int x), (3, .int (nI (fo_up G i j))), (4, .int (nI i))] → Wr0 p l e wsX0_climb 2 42 s m [.ref f, .int (nI j), .int x] below meth c (nI (fo_up G k j)) (F0 m 5 ls []) := by
    intro k_
    induction k_ with
    | zero => intro i hi hk_; exact absurd hk_ (Nat.not_lt_zero _)
    | succ k_ ih =>
      intro i hi hk_ ls hl
      refine lv_iload hx hb dX0_climb_5 (lv_at hl 4 rfl) ?_
      refine lv_iload_n hx hb dX0_climb_7 rfl (lv_at hl 2 rfl) ?_
      refine lv_icmp_ge (tgt := 30) hx hb dX0_climb_8 (by decide) (fun c_1 => ?_) (fun c_1 => ?_)
      · skip
        have c_1 := climb_ge hxk c_1 hi (by omega)
        refine lv_iload_n hx hb dX0_climb_30 rfl (lv_at hl 3 rfl) ?_
        exact rd_i hx hb hr hlocks (by rw [c_1]) dX0_climb_31
      · skip
        have c_1 := climb_lt hxk c_1 hi (by omega)
        refine lv_iload hx hb dX0_climb_11 (lv_at hl 4 rfl) ?_
        refine lv_bipush (v := 64) hx hb dX0_climb_13 (by decide) ?_
        refine lv_icmp_ge (tgt := 30) hx hb dX0_climb_15 (by decide) (fun c_2 => ?_) (fun c_2 => ?_)
        · skip
          have c_2 := cn_le (a := 64) (b := i) (by omega) (by omega) c_2
          exact absurd hd63 (by omega)
        · skip
          have c_2 := cn_nle (a := 64) (b := i) (by omega) (by omega) c_2
          refine lv_aload_n hx hb dX0_climb_18 rfl (lv_at hl 0 rfl) ?_
          refine lv_iload_n hx hb dX0_climb_19 rfl (lv_at hl 3 rfl) ?_
          refine rd_call ⟨hx, hb, hml, hown, hts⟩ (c_X0_parentOf l D cI cZ f fa fb fc n (fo_cp G) va mk (fo_up G i j) (fo_lt F hj _) hn) (cwV 1 hts gX0_climb_X0_parentOf rfl rfl rfl (by decide +kernel) ⟨Nat.le_of_ble_eq_true rfl, Nat.le_of_ble_eq_true rfl⟩) hP hK rfl rfl rfl hl rfl (Nat.le_of_ble_eq_true rfl) dX0_climb_20 ⟨Nat.zero_le _, Nat.zero_le _⟩ ?_
          rw [fo_cp_n (fo_nr F (by omega)), ← fo_up_s G i j]
          refine lv_istore_n (lv' := [(3, .int (nI (fo_up G (i + 1) j))), (0, .ref f), (1, .int (nI j)), (2, .int x), (4, .int (nI i))]) hx hb dX0_climb_23 rfl hl (by decide) rfl (fun ls hl => ?_)
          refine lv_iinc (v := nI (i + 1)) (lv' := [(4, .int (nI (i + 1))), (3, .int (nI (fo_up G (i + 1) j))), (0, .ref f), (1, .int (nI j)), (2, .int x)]) hx hb dX0_climb_24 hl (k := 4) rfl (nI_1 i) (by decide) rfl (fun ls hl => ?_)
          refine lv_goto (tgt := 5) hx hb dX0_climb_27 (by decide) ?_
          exact ih (i + 1) c_1 (by omega) ls (lv_sub hl [2, 3, 4, 1, 0] rfl)
  exact L5 (64 - 0 + 1) 0 (Nat.zero_le _) (Nat.lt_succ_self _) ls (lv_sub hl [2, 3, 4, 1, 0] rfl)
set_option maxHeartbeats 4000000 in
set_option maxRecDepth 100000 in
theorem c_X0_rootOf (l : Launch) (D : va_G) (cI cZ : ClassId) (f : Nat) (fa : Nat) (fb : Nat) (fc : Nat) (n : Nat) (G : Nat → Nat) (va : Nat → Int32) (mk : Nat → Bool) (F : fo_ok n G) (j : Nat) (hj : j < n) : RdM l yX0_rootOf wsX0_rootOf 3 66 D cI cZ (wF f fa fb fc cI cZ n (fo_cp G) va mk) [.ref f, .int (nI j)] (nI (fo_r G j)) := by
  refine RdM.of (cc := cX0_rootOf) (maxL := 2) (ret := (some .int)) (by decide) rfl (Nat.le_of_ble_eq_true rfl) ?_
  intro p e s m below meth c hx hb hr hml hown hts hlocks hP hK ls hl
  have hown : s.vm.findClass RX0 = some m.cls := hown
  have hl : lv_has ls 2 [(0, .ref f), (1, .int (nI j))] := hl
  refine lv_aload_n hx hb dX0_rootOf_0 rfl (lv_at hl 0 rfl) ?_
  refine lv_iload_n hx hb dX0_rootOf_1 rfl (lv_at hl 1 rfl) ?_
  refine lv_aload_n hx hb dX0_rootOf_2 rfl (lv_at hl 0 rfl) ?_
  refine lv_iload_n hx hb dX0_rootOf_3 rfl (lv_at hl 1 rfl) ?_
  refine rd_call ⟨hx, hb, hml, hown, hts⟩ (c_X0_depthOf l D cI cZ f fa fb fc n G va mk F (j) (hj)) (cwV 1 hts gX0_rootOf_X0_depthOf rfl rfl rfl (by decide +kernel) ⟨Nat.le_of_ble_eq_true rfl, Nat.le_of_ble_eq_true rfl⟩) hP hK rfl rfl rfl hl rfl (Nat.le_of_ble_eq_true rfl) dX0_rootOf_4 ⟨Nat.zero_le _, Nat.zero_le _⟩ ?_
  refine rd_call ⟨hx, hb, hml, hown, hts⟩ (c_X0_climb l D cI cZ f fa fb fc n G va mk F j hj (nI (fo_d G j)) (fo_d G j) (Nat.le_refl _) (Or.inl rfl)) (cwV 2 hts gX0_rootOf_X0_climb rfl rfl rfl (by decide +kernel) ⟨Nat.le_of_ble_eq_true rfl, Nat.le_of_ble_eq_true rfl⟩) hP hK rfl rfl rfl hl rfl (Nat.le_of_ble_eq_true rfl) dX0_rootOf_7 ⟨Nat.zero_le _, Nat.zero_le _⟩ ?_
  exact rd_i hx hb hr hlocks rfl dX0_rootOf_10
set_option maxHeartbeats 4000000 in
set_option maxRecDepth 100000 in
theorem c_X0_isBelow (l : Launch) (D : va_G) (cI cZ : ClassId) (f : Nat) (fa : Nat) (fb : Nat) (fc : Nat) (n : Nat) (G : Nat → Nat) (va : Nat → Int32) (mk : Nat → Bool) (F : fo_ok n G) (j : Nat) (hj : j < n) (t : Nat) (ht : t < n) : RdM l yX0_isBelow wsX0_isBelow 3 66 D cI cZ (wF f fa fb fc cI cZ n (fo_cp G) va mk) [.ref f, .int (nI j), .int (nI t)] (bI (fo_bel G j t)) := by
  refine RdM.of (cc := cX0_isBelow) (maxL := 4) (ret := (some .boolean)) (by decide) rfl (Nat.le_of_ble_eq_true rfl) ?_
  intro p e s m below meth c hx hb hr hml hown hts hlocks hP hK ls hl
  have hown : s.vm.findClass RX0 = some m.cls := hown
  have hl : lv_has ls 4 [(0, .ref f), (1, .int (nI j)), (2, .int (nI t))] := hl
  have hn : n ≤ 64 := F.2.1
  have hd1 := fo_d_le F j
  have hd2 := fo_d_le F t
  refine lv_aload_n hx hb dX0_isBelow_0 rfl (lv_at hl 0 rfl) ?_
  refine lv_iload_n hx hb dX0_isBelow_1 rfl (lv_at hl 1 rfl) ?_
  refine rd_call ⟨hx, hb, hml, hown, hts⟩ (c_X0_depthOf l D cI cZ f fa fb fc n G va mk F (j) (hj)) (cwV 1 hts gX0_isBelow_X0_depthOf rfl rfl rfl (by decide +kernel) ⟨Nat.le_of_ble_eq_true rfl, Nat.le_of_ble_eq_true rfl⟩) hP hK rfl rfl rfl hl rfl (Nat.le_of_ble_eq_true rfl) dX0_isBelow_2 ⟨Nat.zero_le _, Nat.zero_le _⟩ ?_
  refine lv_aload_n hx hb dX0_isBelow_5 rfl (lv_at hl 0 rfl) ?_
  refine lv_iload_n hx hb dX0_isBelow_6 rfl (lv_at hl 2 rfl) ?_
  refine rd_call ⟨hx, hb, hml, hown, hts⟩ (c_X0_depthOf l D cI cZ f fa fb fc n G va mk F (t) (ht)) (cwV 1 hts gX0_isBelow_X0_depthOf rfl rfl rfl (by decide +kernel) ⟨Nat.le_of_ble_eq_true rfl, Nat.le_of_ble_eq_true rfl⟩) hP hK rfl rfl rfl hl rfl (Nat.le_of_ble_eq_true rfl) dX0_isBelow_7 ⟨Nat.zero_le _, Nat.zero_le _⟩ ?_
  refine lv_isub hx hb dX0_isBelow_10 ?_
  refine lv_istore_n (lv' := [(3, .int ((nI (fo_d G (j))) - (nI (fo_d G (t))))), (0, .ref f), (1, .int (nI j)), (2, .int (nI t))]) hx hb dX0_isBelow_11 rfl hl (by decide) rfl (fun ls hl => ?_)
  refine lv_iload_n hx hb dX0_isBelow_12 rfl (lv_at hl 0 rfl) ?_
  refine lv_if_lt (tgt := 30) hx hb dX0_isBelow_13 (by decide) (fun c_1 => ?_) (fun c_1 => ?_)
  · skip
    have c_1 := sub_neg (by omega) (by omega) c_1
    refine lv_iconst (v := 0) hx hb dX0_isBelow_30 (by decide) ?_
    exact rd_z hx hb hr hlocks (by unfold fo_bel; simp [bI, show ¬ fo_d G t ≤ fo_d G j by omega]) dX0_isBelow_31
  · skip
    have c_1 := sub_nneg (by omega) (by omega) c_1
    refine lv_aload_n hx hb dX0_isBelow_16 rfl (lv_at hl 1 rfl) ?_
    refine lv_iload_n hx hb dX0_isBelow_17 rfl (lv_at hl 2 rfl) ?_
    refine lv_iload_n hx hb dX0_isBelow_18 rfl (lv_at hl 0 rfl) ?_
    refine rd_call ⟨hx, hb, hml, hown, hts⟩ (c_X0_climb l D cI cZ f fa fb fc n G va mk F j hj (nI (fo_d G j) - nI (fo_d G t)) (fo_d G j - fo_d G t) (Nat.sub_le _ _) (Or.inl (pk_sub c_1))) (cwV 2 hts gX0_isBelow_X0_climb rfl rfl rfl (by decide +kernel) ⟨Nat.le_of_ble_eq_true rfl, Nat.le_of_ble_eq_true rfl⟩) hP hK rfl rfl rfl hl rfl (Nat.le_of_ble_eq_true rfl) dX0_isBelow_19 ⟨Nat.zero_le _, Nat.zero_le _⟩ ?_
    refine lv_iload_n hx hb dX0_isBelow_22 rfl (lv_at hl 3 rfl) ?_
    have hul := fo_lt F hj (fo_d G j - fo_d G t)
    refine lv_icmp_ne (tgt := 30) hx hb dX0_isBelow_23 (by decide) (fun c_2 => ?_) (fun c_2 => ?_)
    · skip
      have c_2 := cn_ne (a := (fo_up G (fo_d G j - fo_d G t) j)) (b := t) (by omega) (by omega) c_2
      refine lv_iconst (v := 0) hx hb dX0_isBelow_30 (by decide) ?_
      exact rd_z hx hb hr hlocks (by unfold fo_bel; simp [bI, c_2]) dX0_isBelow_31
    · skip
      have c_2 := cn_eq (a := (fo_up G (fo_d G j - fo_d G t) j)) (b := t) (by omega) (by omega) c_2
      refine lv_iconst (v := 1) hx hb dX0_isBelow_26 (by decide) ?_
      refine lv_goto (tgt := 31) hx hb dX0_isBelow_27 (by decide) ?_
      exact rd_z hx hb hr hlocks (by unfold fo_bel; simp [bI, c_1, c_2]) dX0_isBelow_31
set_option maxHeartbeats 4000000 in
set_option maxRecDepth 100000 in
theorem c_X0_countBelow (l : Launch) (D : va_G) (cI cZ : ClassId) (f : Nat) (fa : Nat) (fb : Nat) (fc : Nat) (n : Nat) (G : Nat → Nat) (va : Nat → Int32) (mk : Nat → Bool) (F : fo_ok n G) (t : Nat) (ht : t < n) : RdM l yX0_countBelow wsX0_countBelow 4 89 D cI cZ (wF f fa fb fc cI cZ n (fo_cp G) va mk) [.ref f, .int (nI t)] (nI (fo_cnt (fun v => fo_bel G v t) n)) := by
  refine RdM.of (cc := cX0_countBelow) (maxL := 4) (ret := (some .int)) (by decide) rfl (Nat.le_of_ble_eq_true rfl) ?_
  intro p e s m below meth c hx hb hr hml hown hts hlocks hP hK ls hl
  have hown : s.vm.findClass RX0 = some m.cls := hown
  have hl : lv_has ls 4 [(0, .ref f), (1, .int (nI t))] := hl
  have hf9 := hts (.fieldLink RX0 9 "DynamicForest$Forest" "size" "I") (by decide +kernel)
  have hin0 : ∀ w ∈ u_ws RX0 TX0 4, w ∈ wsX0_countBelow := by decide +kernel
  have hn : n ≤ 64 := F.2.1
  refine lv_iconst (v := nI 0) hx hb dX0_countBelow_0 (by decide) ?_
  refine lv_istore_n (lv' := [(2, .int (nI 0)), (0, .ref f), (1, .int (nI t))]) hx hb dX0_countBelow_1 rfl hl (by decide) rfl (fun ls hl => ?_)
  refine lv_iconst (v := nI 0) hx hb dX0_countBelow_2 (by decide) ?_
  refine lv_istore_n (lv' := [(3, .int (nI 0)), (2, .int (nI 0)), (0, .ref f), (1, .int (nI t))]) hx hb dX0_countBelow_3 rfl hl (by decide) rfl (fun ls hl => ?_)
  have L4 : ∀ (k_ : Nat) (i : Nat), i ≤ n → n - i < k_ → ∀ ls, lv_has ls 4 [(0, .ref f), (1, .int (nI t)), (2, .int (nI (fo_cnt (fun v => fo_bel G v t) i))), (3, .int (nI i))] → Wr0 p l e wsX0_countBelow 4 89 s m [.ref f, .int (nI t)] below meth c (nI (fo_cnt (fun v => fo_bel G v t) n)) (F0 m 4 ls []) := by
    intro k_
    induction k_ with
    | zero => intro i hi hk_; exact absurd hk_ (Nat.not_lt_zero _)
    | succ k_ ih =>
      intro i hi hk_ ls hl
      refine lv_iload_n hx hb dX0_countBelow_4 rfl (lv_at hl 3 rfl) ?_
      refine lv_aload_n hx hb dX0_countBelow_5 rfl (lv_at hl 0 rfl) ?_
      refine va_get (D := D) (ci := 0) (v := .int (nI n)) (C := RX0) (T := TX0) (N := 4) hx hb hts hin0 hown hK hP 0 rfl rfl 0 (by decide) hf9 (fun _ h9 => h9) rfl dX0_countBelow_6 ?_
      refine lv_icmp_ge (tgt := 30) hx hb dX0_countBelow_9 (by decide) (fun c_1 => ?_) (fun c_1 => ?_)
      · skip
        have c_1 := cn_le (a := n) (b := i) (by omega) (by omega) c_1
        refine lv_iload_n hx hb dX0_countBelow_30 rfl (lv_at hl 2 rfl) ?_
        exact rd_i hx hb hr hlocks (by rw [show i = n by omega]) dX0_countBelow_31
      · skip
        have c_1 := cn_nle (a := n) (b := i) (by omega) (by omega) c_1
        refine lv_aload_n hx hb dX0_countBelow_12 rfl (lv_at hl 0 rfl) ?_
        refine lv_iload_n hx hb dX0_countBelow_13 rfl (lv_at hl 3 rfl) ?_
        refine lv_iload_n hx hb dX0_countBelow_14 rfl (lv_at hl 1 rfl) ?_
        refine rd_call ⟨hx, hb, hml, hown, hts⟩ (c_X0_isBelow l D cI cZ f fa fb fc n G va mk F i c_1 t ht) (cwV 2 hts gX0_countBelow_X0_isBelow rfl rfl rfl (by decide +kernel) ⟨Nat.le_of_ble_eq_true rfl, Nat.le_of_ble_eq_true rfl⟩) hP hK rfl rfl rfl hl rfl (Nat.le_of_ble_eq_true rfl) dX0_countBelow_15 ⟨Nat.zero_le _, Nat.zero_le _⟩ ?_
        refine lv_if_eq (tgt := 24) hx hb dX0_countBelow_18 (by decide) (fun c_2 => ?_) (fun c_2 => ?_)
        · skip
          have c_2 := bI_0 c_2
          refine lv_iinc (v := nI (i + 1)) (lv' := [(3, .int (nI (i + 1))), (0, .ref f), (1, .int (nI t)), (2, .int (nI (fo_cnt (fun v => fo_bel G v t) i)))]) hx hb dX0_countBelow_24 hl (k := 3) rfl (nI_1 i) (by decide) rfl (fun ls hl => ?_)
          refine lv_goto (tgt := 4) hx hb dX0_countBelow_27 (by decide) ?_
          rw [← fo_cnt_f (f := (fun v => fo_bel G v t)) (k := i) c_2] at hl
          exact ih (i + 1) (by omega) (by omega) ls (lv_sub hl [1, 2, 3, 0] rfl)
        · skip
          have c_2 := bI_1 c_2
          refine lv_iinc (v := nI ((fo_cnt (fun v => fo_bel G v t) i) + 1)) (lv' := [(2, .int (nI ((fo_cnt (fun v => fo_bel G v t) i) + 1))), (0, .ref f), (1, .int (nI t)), (3, .int (nI i))]) hx hb dX0_countBelow_21 hl (k := 2) rfl (nI_1 (fo_cnt (fun v => fo_bel G v t) i)) (by decide) rfl (fun ls hl => ?_)
          refine lv_iinc (v := nI (i + 1)) (lv' := [(3, .int (nI (i + 1))), (2, .int (nI ((fo_cnt (fun v => fo_bel G v t) i) + 1))), (0, .ref f), (1, .int (nI t))]) hx hb dX0_countBelow_24 hl (k := 3) rfl (nI_1 i) (by decide) rfl (fun ls hl => ?_)
          refine lv_goto (tgt := 4) hx hb dX0_countBelow_27 (by decide) ?_
          rw [← fo_cnt_t (f := (fun v => fo_bel G v t)) (k := i) c_2] at hl
          exact ih (i + 1) (by omega) (by omega) ls (lv_sub hl [2, 3, 1, 0] rfl)
  exact L4 (n - 0 + 1) 0 (Nat.zero_le _) (Nat.lt_succ_self _) ls (lv_sub hl [2, 3, 1, 0] rfl)
set_option maxHeartbeats 4000000 in
set_option maxRecDepth 100000 in
theorem c_X0_meetingPoint (l : Launch) (D : va_G) (cI cZ : ClassId) (f : Nat) (fa : Nat) (fb : Nat) (fc : Nat) (n : Nat) (G : Nat → Nat) (va : Nat → Int32) (mk : Nat → Bool) (F : fo_ok n G) (u : Nat) (v : Nat) (hu : u < n) (hv : v < n) (hro : fo_r G u = fo_r G v) : RdM l yX0_meetingPoint wsX0_meetingPoint 3 66 D cI cZ (wF f fa fb fc cI cZ n (fo_cp G) va mk) [.ref f, .int (nI u), .int (nI v)] (nI (fo_m G u v)) := by
  refine RdM.of (cc := cX0_meetingPoint) (maxL := 7) (ret := (some .int)) (by decide) rfl (Nat.le_of_ble_eq_true rfl) ?_
  intro p e s m below meth c hx hb hr hml hown hts hlocks hP hK ls hl
  have hown : s.vm.findClass RX0 = some m.cls := hown
  have hl : lv_has ls 7 [(0, .ref f), (1, .int (nI u)), (2, .int (nI v))] := hl
  have hn : n ≤ 64 := F.2.1
  have hd1 := fo_d_le F u
  have hd2 := fo_d_le F v
  have hdA := fo_d_up F u (fo_d G u - fo_d G v) (Nat.sub_le _ _)
  have hdB := fo_d_up F v (fo_d G v - fo_d G u) (Nat.sub_le _ _)
  have hrA := fo_r_up F u (fo_d G u - fo_d G v)
  have hrB := fo_r_up F v (fo_d G v - fo_d G u)
  have hlA := fo_lt F hu (fo_d G u - fo_d G v)
  have hlB := fo_lt F hv (fo_d G v - fo_d G u)
  refine lv_aload_n hx hb dX0_meetingPoint_0 rfl (lv_at hl 0 rfl) ?_
  refine lv_iload_n hx hb dX0_meetingPoint_1 rfl (lv_at hl 1 rfl) ?_
  refine rd_call ⟨hx, hb, hml, hown, hts⟩ (c_X0_depthOf l D cI cZ f fa fb fc n G va mk F (u) (hu)) (cwV 1 hts gX0_meetingPoint_X0_depthOf rfl rfl rfl (by decide +kernel) ⟨Nat.le_of_ble_eq_true rfl, Nat.le_of_ble_eq_true rfl⟩) hP hK rfl rfl rfl hl rfl (Nat.le_of_ble_eq_true rfl) dX0_meetingPoint_2 ⟨Nat.zero_le _, Nat.zero_le _⟩ ?_
  refine lv_aload_n hx hb dX0_meetingPoint_5 rfl (lv_at hl 0 rfl) ?_
  refine lv_iload_n hx hb dX0_meetingPoint_6 rfl (lv_at hl 2 rfl) ?_
  refine rd_call ⟨hx, hb, hml, hown, hts⟩ (c_X0_depthOf l D cI cZ f fa fb fc n G va mk F (v) (hv)) (cwV 1 hts gX0_meetingPoint_X0_depthOf rfl rfl rfl (by decide +kernel) ⟨Nat.le_of_ble_eq_true rfl, Nat.le_of_ble_eq_true rfl⟩) hP hK rfl rfl rfl hl rfl (Nat.le_of_ble_eq_true rfl) dX0_meetingPoint_7 ⟨Nat.zero_le _, Nat.zero_le _⟩ ?_
  refine lv_isub hx hb dX0_meetingPoint_10 ?_
  refine lv_istore_n (lv' := [(3, .int ((nI (fo_d G (u))) - (nI (fo_d G (v))))), (0, .ref f), (1, .int (nI u)), (2, .int (nI v))]) hx hb dX0_meetingPoint_11 rfl hl (by decide) rfl (fun ls hl => ?_)
  refine lv_aload_n hx hb dX0_meetingPoint_12 rfl (lv_at hl 1 rfl) ?_
  refine lv_iload_n hx hb dX0_meetingPoint_13 rfl (lv_at hl 2 rfl) ?_
  refine lv_iload_n hx hb dX0_meetingPoint_14 rfl (lv_at hl 0 rfl) ?_
  refine rd_call ⟨hx, hb, hml, hown, hts⟩ (c_X0_climb l D cI cZ f fa fb fc n G va mk F u hu (nI (fo_d G u) - nI (fo_d G v)) (fo_d G u - fo_d G v) (Nat.sub_le _ _) (sub_cl (by omega) (by omega))) (cwV 2 hts gX0_meetingPoint_X0_climb rfl rfl rfl (by decide +kernel) ⟨Nat.le_of_ble_eq_true rfl, Nat.le_of_ble_eq_true rfl⟩) hP hK rfl rfl rfl hl rfl (Nat.le_of_ble_eq_true rfl) dX0_meetingPoint_15 ⟨Nat.zero_le _, Nat.zero_le _⟩ ?_
  refine lv_istore (lv' := [(4, .int (nI (fo_up G (fo_d G u - fo_d G v) u))), (3, .int ((nI (fo_d G (u))) - (nI (fo_d G (v))))), (0, .ref f), (1, .int (nI u)), (2, .int (nI v))]) hx hb dX0_meetingPoint_18 hl (by decide) rfl (fun ls hl => ?_)
  refine lv_aload_n hx hb dX0_meetingPoint_20 rfl (lv_at hl 2 rfl) ?_
  refine lv_iload_n hx hb dX0_meetingPoint_21 rfl (lv_at hl 4 rfl) ?_
  refine lv_iload_n hx hb dX0_meetingPoint_22 rfl (lv_at hl 1 rfl) ?_
  refine lv_ineg hx hb dX0_meetingPoint_23 ?_
  refine rd_call ⟨hx, hb, hml, hown, hts⟩ (c_X0_climb l D cI cZ f fa fb fc n G va mk F v hv (-(nI (fo_d G u) - nI (fo_d G v))) (fo_d G v - fo_d G u) (Nat.sub_le _ _) (neg_cl (by omega) (by omega))) (cwV 2 hts gX0_meetingPoint_X0_climb rfl rfl rfl (by decide +kernel) ⟨Nat.le_of_ble_eq_true rfl, Nat.le_of_ble_eq_true rfl⟩) hP hK rfl rfl rfl hl rfl (Nat.le_of_ble_eq_true rfl) dX0_meetingPoint_24 ⟨Nat.zero_le _, Nat.zero_le _⟩ ?_
  refine lv_istore (lv' := [(5, .int (nI (fo_up G (fo_d G v - fo_d G u) v))), (4, .int (nI (fo_up G (fo_d G u - fo_d G v) u))), (3, .int ((nI (fo_d G (u))) - (nI (fo_d G (v))))), (0, .ref f), (1, .int (nI u)), (2, .int (nI v))]) hx hb dX0_meetingPoint_27 hl (by decide) rfl (fun ls hl => ?_)
  refine lv_iconst (v := nI 0) hx hb dX0_meetingPoint_29 (by decide) ?_
  refine lv_istore (lv' := [(6, .int (nI 0)), (5, .int (nI (fo_up G (fo_d G v - fo_d G u) v))), (4, .int (nI (fo_up G (fo_d G u - fo_d G v) u))), (3, .int ((nI (fo_d G (u))) - (nI (fo_d G (v))))), (0, .ref f), (1, .int (nI u)), (2, .int (nI v))]) hx hb dX0_meetingPoint_30 hl (by decide) rfl (fun ls hl => ?_)
  have L32 : ∀ (k_ : Nat) (i : Nat), i ≤ fo_d G (fo_up G (fo_d G u - fo_d G v) u) → fo_mF G (64 - i) (fo_up G i (fo_up G (fo_d G u - fo_d G v) u)) (fo_up G i (fo_up G (fo_d G v - fo_d G u) v)) = fo_m G u v → 64 - i < k_ → ∀ ls, lv_has ls 7 [(0, .ref f), (1, .int (nI u)), (2, .int (nI v)), (3, .int (nI (fo_d G u) - nI (fo_d G v))), (4, .int (nI (fo_up G i (fo_up G (fo_d G u - fo_d G v) u)))), (5, .int (nI (fo_up G i (fo_up G (fo_d G v - fo_d G u) v)))), (6, .int (nI i))] → Wr0 p l e wsX0_meetingPoint 3 66 s m [.ref f, .int (nI u), .int (nI v)] below meth c (nI (fo_m G u v)) (F0 m 32 ls []) := by
    intro k_
    induction k_ with
    | zero => intro i hi hm hk_; exact absurd hk_ (Nat.not_lt_zero _)
    | succ k_ ih =>
      intro i hi hm hk_ ls hl
      have hda := fo_d_up F (fo_up G (fo_d G u - fo_d G v) u) i hi
      have hdb := fo_d_up F (fo_up G (fo_d G v - fo_d G u) v) i (by omega)
      have hra := fo_r_up F (fo_up G (fo_d G u - fo_d G v) u) i
      have hrb := fo_r_up F (fo_up G (fo_d G v - fo_d G u) v) i
      have hla := fo_lt F hlA i
      have hlb := fo_lt F hlB i
      refine lv_iload hx hb dX0_meetingPoint_32 (lv_at hl 6 rfl) ?_
      refine lv_bipush (v := 64) hx hb dX0_meetingPoint_34 (by decide) ?_
      refine lv_icmp_ge (tgt := 68) hx hb dX0_meetingPoint_36 (by decide) (fun c_1 => ?_) (fun c_1 => ?_)
      · skip
        have c_1 := cn_le (a := 64) (b := i) (by omega) (by omega) c_1
        exact absurd hd1 (by omega)
      · skip
        have c_1 := cn_nle (a := 64) (b := i) (by omega) (by omega) c_1
        refine lv_iload hx hb dX0_meetingPoint_39 (lv_at hl 4 rfl) ?_
        refine lv_iload hx hb dX0_meetingPoint_41 (lv_at hl 5 rfl) ?_
        refine lv_icmp_eq (tgt := 68) hx hb dX0_meetingPoint_43 (by decide) (fun c_2 => ?_) (fun c_2 => ?_)
        · skip
          have c_2 := cn_eq (a := (fo_up G i (fo_up G (fo_d G u - fo_d G v) u))) (b := (fo_up G i (fo_up G (fo_d G v - fo_d G u) v))) (by omega) (by omega) c_2
          refine lv_iload hx hb dX0_meetingPoint_68 (lv_at hl 4 rfl) ?_
          exact rd_i hx hb hr hlocks (by rw [← hm, fo_mF_eq c_2]) dX0_meetingPoint_70
        · skip
          have c_2 := cn_ne (a := (fo_up G i (fo_up G (fo_d G u - fo_d G v) u))) (b := (fo_up G i (fo_up G (fo_d G v - fo_d G u) v))) (by omega) (by omega) c_2
          have hnr := fo_nrm F (a := fo_up G i (fo_up G (fo_d G u - fo_d G v) u)) (b := fo_up G i (fo_up G (fo_d G v - fo_d G u) v)) (by omega) (by rw [hra, hrb, hrA, hrB]; exact hro) c_2
          refine lv_aload_n hx hb dX0_meetingPoint_46 rfl (lv_at hl 0 rfl) ?_
          refine lv_iload hx hb dX0_meetingPoint_47 (lv_at hl 4 rfl) ?_
          refine rd_call ⟨hx, hb, hml, hown, hts⟩ (c_X0_parentOf l D cI cZ f fa fb fc n (fo_cp G) va mk (fo_up G i (fo_up G (fo_d G u - fo_d G v) u)) (fo_lt F hlA _) hn) (cwV 1 hts gX0_meetingPoint_X0_parentOf rfl rfl rfl (by decide +kernel) ⟨Nat.le_of_ble_eq_true rfl, Nat.le_of_ble_eq_true rfl⟩) hP hK rfl rfl rfl hl rfl (Nat.le_of_ble_eq_true rfl) dX0_meetingPoint_49 ⟨Nat.zero_le _, Nat.zero_le _⟩ ?_
          rw [fo_cp_n hnr.1, ← fo_up_s G i (fo_up G (fo_d G u - fo_d G v) u)]
          refine lv_istore (lv' := [(4, .int (nI (fo_up G (i + 1) (fo_up G (fo_d G u - fo_d G v) u)))), (0, .ref f), (1, .int (nI u)), (2, .int (nI v)), (3, .int (nI (fo_d G u) - nI (fo_d G v))), (5, .int (nI (fo_up G i (fo_up G (fo_d G v - fo_d G u) v)))), (6, .int (nI i))]) hx hb dX0_meetingPoint_52 hl (by decide) rfl (fun ls hl => ?_)
          refine lv_aload_n hx hb dX0_meetingPoint_54 rfl (lv_at hl 1 rfl) ?_
          refine lv_iload hx hb dX0_meetingPoint_55 (lv_at hl 5 rfl) ?_
          refine rd_call ⟨hx, hb, hml, hown, hts⟩ (c_X0_parentOf l D cI cZ f fa fb fc n (fo_cp G) va mk (fo_up G i (fo_up G (fo_d G v - fo_d G u) v)) (fo_lt F hlB _) hn) (cwV 1 hts gX0_meetingPoint_X0_parentOf rfl rfl rfl (by decide +kernel) ⟨Nat.le_of_ble_eq_true rfl, Nat.le_of_ble_eq_true rfl⟩) hP hK rfl rfl rfl hl rfl (Nat.le_of_ble_eq_true rfl) dX0_meetingPoint_57 ⟨Nat.zero_le _, Nat.zero_le _⟩ ?_
          rw [fo_cp_n hnr.2, ← fo_up_s G i (fo_up G (fo_d G v - fo_d G u) v)]
          refine lv_istore (lv' := [(5, .int (nI (fo_up G (i + 1) (fo_up G (fo_d G v - fo_d G u) v)))), (4, .int (nI (fo_up G (i + 1) (fo_up G (fo_d G u - fo_d G v) u)))), (0, .ref f), (1, .int (nI u)), (2, .int (nI v)), (3, .int (nI (fo_d G u) - nI (fo_d G v))), (6, .int (nI i))]) hx hb dX0_meetingPoint_60 hl (by decide) rfl (fun ls hl => ?_)
          refine lv_iinc (v := nI (i + 1)) (lv' := [(6, .int (nI (i + 1))), (5, .int (nI (fo_up G (i + 1) (fo_up G (fo_d G v - fo_d G u) v)))), (4, .int (nI (fo_up G (i + 1) (fo_up G (fo_d G u - fo_d G v) u)))), (0, .ref f), (1, .int (nI u)), (2, .int (nI v)), (3, .int (nI (fo_d G u) - nI (fo_d G v)))]) hx hb dX0_meetingPoint_62 hl (k := 6) rfl (nI_1 i) (by decide) rfl (fun ls hl => ?_)
          refine lv_goto (tgt := 32) hx hb dX0_meetingPoint_65 (by decide) ?_
          exact ih (i + 1) (by have := fo_d_gt F hi hnr.1; omega) (by rw [← hm, fo_mF_st (by omega) c_2, fo_up_s, fo_up_s]) (by omega) ls (lv_sub hl [3, 4, 5, 6, 2, 1, 0] rfl)
  exact L32 (64 - 0 + 1) 0 (Nat.zero_le _) rfl (Nat.lt_succ_self _) ls (lv_sub hl [4, 5, 6, 3, 2, 1, 0] rfl)
set_option maxHeartbeats 4000000 in
set_option maxRecDepth 100000 in
theorem c_X0_edgesBetween (l : Launch) (D : va_G) (cI cZ : ClassId) (f : Nat) (fa : Nat) (fb : Nat) (fc : Nat) (n : Nat) (G : Nat → Nat) (va : Nat → Int32) (mk : Nat → Bool) (F : fo_ok n G) (u : Nat) (v : Nat) (hu : u < n) (hv : v < n) (hro : fo_r G u = fo_r G v) : RdM l yX0_edgesBetween wsX0_edgesBetween 4 92 D cI cZ (wF f fa fb fc cI cZ n (fo_cp G) va mk) [.ref f, .int (nI u), .int (nI v)] (nI (fo_dist G u v)) := by
  refine RdM.of (cc := cX0_edgesBetween) (maxL := 3) (ret := (some .int)) (by decide) rfl (Nat.le_of_ble_eq_true rfl) ?_
  intro p e s m below meth c hx hb hr hml hown hts hlocks hP hK ls hl
  have hown : s.vm.findClass RX0 = some m.cls := hown
  have hl : lv_has ls 3 [(0, .ref f), (1, .int (nI u)), (2, .int (nI v))] := hl
  refine lv_aload_n hx hb dX0_edgesBetween_0 rfl (lv_at hl 0 rfl) ?_
  refine lv_iload_n hx hb dX0_edgesBetween_1 rfl (lv_at hl 1 rfl) ?_
  refine rd_call ⟨hx, hb, hml, hown, hts⟩ (c_X0_depthOf l D cI cZ f fa fb fc n G va mk F (u) (hu)) (cwV 1 hts gX0_edgesBetween_X0_depthOf rfl rfl rfl (by decide +kernel) ⟨Nat.le_of_ble_eq_true rfl, Nat.le_of_ble_eq_true rfl⟩) hP hK rfl rfl rfl hl rfl (Nat.le_of_ble_eq_true rfl) dX0_edgesBetween_2 ⟨Nat.zero_le _, Nat.zero_le _⟩ ?_
  refine lv_aload_n hx hb dX0_edgesBetween_5 rfl (lv_at hl 0 rfl) ?_
  refine lv_iload_n hx hb dX0_edgesBetween_6 rfl (lv_at hl 2 rfl) ?_
  refine rd_call ⟨hx, hb, hml, hown, hts⟩ (c_X0_depthOf l D cI cZ f fa fb fc n G va mk F (v) (hv)) (cwV 1 hts gX0_edgesBetween_X0_depthOf rfl rfl rfl (by decide +kernel) ⟨Nat.le_of_ble_eq_true rfl, Nat.le_of_ble_eq_true rfl⟩) hP hK rfl rfl rfl hl rfl (Nat.le_of_ble_eq_true rfl) dX0_edgesBetween_7 ⟨Nat.zero_le _, Nat.zero_le _⟩ ?_
  refine lv_iadd hx hb dX0_edgesBetween_10 ?_
  refine lv_iconst (v := 2) hx hb dX0_edgesBetween_11 (by decide) ?_
  refine lv_aload_n hx hb dX0_edgesBetween_12 rfl (lv_at hl 0 rfl) ?_
  refine lv_aload_n hx hb dX0_edgesBetween_13 rfl (lv_at hl 0 rfl) ?_
  refine lv_iload_n hx hb dX0_edgesBetween_14 rfl (lv_at hl 1 rfl) ?_
  refine lv_iload_n hx hb dX0_edgesBetween_15 rfl (lv_at hl 2 rfl) ?_
  refine rd_call ⟨hx, hb, hml, hown, hts⟩ (c_X0_meetingPoint l D cI cZ f fa fb fc n G va mk F u v hu hv hro) (cwV 2 hts gX0_edgesBetween_X0_meetingPoint rfl rfl rfl (by decide +kernel) ⟨Nat.le_of_ble_eq_true rfl, Nat.le_of_ble_eq_true rfl⟩) hP hK rfl rfl rfl hl rfl (Nat.le_of_ble_eq_true rfl) dX0_edgesBetween_16 ⟨Nat.zero_le _, Nat.zero_le _⟩ ?_
  refine rd_call ⟨hx, hb, hml, hown, hts⟩ (c_X0_depthOf l D cI cZ f fa fb fc n G va mk F (fo_m G u v) (fo_m_lt F hro hu)) (cwV 1 hts gX0_edgesBetween_X0_depthOf rfl rfl rfl (by decide +kernel) ⟨Nat.le_of_ble_eq_true rfl, Nat.le_of_ble_eq_true rfl⟩) hP hK rfl rfl rfl hl rfl (Nat.le_of_ble_eq_true rfl) dX0_edgesBetween_19 ⟨Nat.zero_le _, Nat.zero_le _⟩ ?_
  refine lv_imul hx hb dX0_edgesBetween_22 ?_
  refine lv_isub hx hb dX0_edgesBetween_23 ?_
  exact rd_i hx hb hr hlocks (fo_dist_v F hro) dX0_edgesBetween_24
end
section
set_option maxHeartbeats 4000000 in
set_option maxRecDepth 100000 in
theorem c_X0_farthestFrom (l : Launch) (D : va_G) (cI cZ : ClassId) (f : Nat) (fa : Nat) (fb : Nat) (fc : Nat) (n : Nat) (G : Nat → Nat) (va : Nat → Int32) (mk : Nat → Bool) (F : fo_ok n G) (v : Nat) (hv : v < n) : RdM l yX0_farthestFrom wsX0_farthestFrom 5 114 D cI cZ (wF f fa fb fc cI cZ n (fo_cp G) va mk) [.ref f, .int (nI v)] (nI (fo_fs G v n).1) := by
  refine RdM.of (cc := cX0_farthestFrom) (maxL := 7) (ret := (some .int)) (by decide) rfl (Nat.le_of_ble_eq_true rfl) ?_
  intro p e s m below meth c hx hb hr hml hown hts hlocks hP hK ls hl
  have hown : s.vm.findClass RX0 = some m.cls := hown
  have hl : lv_has ls 7 [(0, .ref f), (1, .int (nI v))] := hl
  have hf9 := hts (.fieldLink RX0 9 "DynamicForest$Forest" "size" "I") (by decide +kernel)
  have hin0 : ∀ w ∈ u_ws RX0 TX0 4, w ∈ wsX0_farthestFrom := by decide +kernel
  have hn : n ≤ 64 := F.2.1
  have hlv := fo_r_lt F hv
  refine lv_aload_n hx hb dX0_farthestFrom_0 rfl (lv_at hl 0 rfl) ?_
  refine lv_iload_n hx hb dX0_farthestFrom_1 rfl (lv_at hl 1 rfl) ?_
  refine rd_call ⟨hx, hb, hml, hown, hts⟩ (c_X0_rootOf l D cI cZ f fa fb fc n G va mk F (v) (hv)) (cwV 1 hts gX0_farthestFrom_X0_rootOf rfl rfl rfl (by decide +kernel) ⟨Nat.le_of_ble_eq_true rfl, Nat.le_of_ble_eq_true rfl⟩) hP hK rfl rfl rfl hl rfl (Nat.le_of_ble_eq_true rfl) dX0_farthestFrom_2 ⟨Nat.zero_le _, Nat.zero_le _⟩ ?_
  refine lv_istore_n (lv' := [(2, .int (nI (fo_r G (v)))), (0, .ref f), (1, .int (nI v))]) hx hb dX0_farthestFrom_5 rfl hl (by decide) rfl (fun ls hl => ?_)
  refine lv_iload_n hx hb dX0_farthestFrom_6 rfl (lv_at hl 2 rfl) ?_
  refine lv_istore_n (lv' := [(3, .int (nI v)), (2, .int (nI (fo_r G (v)))), (0, .ref f), (1, .int (nI v))]) hx hb dX0_farthestFrom_7 rfl hl (by decide) rfl (fun ls hl => ?_)
  refine lv_iconst (v := nI 0) hx hb dX0_farthestFrom_8 (by decide) ?_
  refine lv_istore (lv' := [(4, .int (nI 0)), (3, .int (nI v)), (2, .int (nI (fo_r G (v)))), (0, .ref f), (1, .int (nI v))]) hx hb dX0_farthestFrom_9 hl (by decide) rfl (fun ls hl => ?_)
  refine lv_iconst (v := nI 0) hx hb dX0_farthestFrom_11 (by decide) ?_
  refine lv_istore (lv' := [(5, .int (nI 0)), (4, .int (nI 0)), (3, .int (nI v)), (2, .int (nI (fo_r G (v)))), (0, .ref f), (1, .int (nI v))]) hx hb dX0_farthestFrom_12 hl (by decide) rfl (fun ls hl => ?_)
  have L14 : ∀ (k_ : Nat) (i : Nat), i ≤ n → n - i < k_ → ∀ ls, lv_has ls 7 [(0, .ref f), (1, .int (nI v)), (2, .int (nI (fo_r G v))), (3, .int (nI (fo_fs G v i).1)), (4, .int (nI (fo_fs G v i).2)), (5, .int (nI i))] → Wr0 p l e wsX0_farthestFrom 5 114 s m [.ref f, .int (nI v)] below meth c (nI (fo_fs G v n).1) (F0 m 14 ls []) := by
    intro k_
    induction k_ with
    | zero => intro i hi hk_; exact absurd hk_ (Nat.not_lt_zero _)
    | succ k_ ih =>
      intro i hi hk_ ls hl
      have hms := fo_fs_le F hv hi
      have hds := fo_dist_le F v i
      refine lv_iload hx hb dX0_farthestFrom_14 (lv_at hl 5 rfl) ?_
      refine lv_aload_n hx hb dX0_farthestFrom_16 rfl (lv_at hl 0 rfl) ?_
      refine va_get (D := D) (ci := 0) (v := .int (nI n)) (C := RX0) (T := TX0) (N := 4) hx hb hts hin0 hown hK hP 0 rfl rfl 0 (by decide) hf9 (fun _ h9 => h9) rfl dX0_farthestFrom_17 ?_
      refine lv_icmp_ge (tgt := 66) hx hb dX0_farthestFrom_20 (by decide) (fun c_20 => ?_) (fun c_20 => ?_)
      · skip
        have c_20 := cn_le (a := n) (b := i) (by omega) (by omega) c_20
        refine lv_iload_n hx hb dX0_farthestFrom_66 rfl (lv_at hl 3 rfl) ?_
        exact rd_i hx hb hr hlocks (by rw [show i = n by omega]) dX0_farthestFrom_67
      · skip
        have c_20 := cn_nle (a := n) (b := i) (by omega) (by omega) c_20
        refine lv_aload_n hx hb dX0_farthestFrom_23 rfl (lv_at hl 0 rfl) ?_
        refine lv_iload hx hb dX0_farthestFrom_24 (lv_at hl 5 rfl) ?_
        refine rd_call ⟨hx, hb, hml, hown, hts⟩ (c_X0_rootOf l D cI cZ f fa fb fc n G va mk F (i) (c_20)) (cwV 1 hts gX0_farthestFrom_X0_rootOf rfl rfl rfl (by decide +kernel) ⟨Nat.le_of_ble_eq_true rfl, Nat.le_of_ble_eq_true rfl⟩) hP hK rfl rfl rfl hl rfl (Nat.le_of_ble_eq_true rfl) dX0_farthestFrom_26 ⟨Nat.zero_le _, Nat.zero_le _⟩ ?_
        refine lv_iload_n hx hb dX0_farthestFrom_29 rfl (lv_at hl 2 rfl) ?_
        have hli := fo_r_lt F c_20
        refine lv_icmp_ne (tgt := 43) hx hb dX0_farthestFrom_30 (by decide) (fun c_30 => ?_) (fun c_30 => ?_)
        · skip
          have c_30 := cn_ne (a := (fo_r G (i))) (b := (fo_r G v)) (by omega) (by omega) c_30
          refine lv_iconst (v := nI 0) hx hb dX0_farthestFrom_43 (by decide) ?_
          refine lv_istore (lv' := [(6, .int (nI 0)), (0, .ref f), (1, .int (nI v)), (2, .int (nI (fo_r G v))), (3, .int (nI (fo_fs G v i).1)), (4, .int (nI (fo_fs G v i).2)), (5, .int (nI i))]) hx hb dX0_farthestFrom_44 hl (by decide) rfl (fun ls hl => ?_)
          refine lv_iload hx hb dX0_farthestFrom_46 (lv_at hl 0 rfl) ?_
          refine lv_iload hx hb dX0_farthestFrom_48 (lv_at hl 5 rfl) ?_
          refine lv_icmp_le (tgt := 60) hx hb dX0_farthestFrom_50 (by decide) (fun c_50 => ?_) (fun c_50 => ?_)
          · skip
            have c_50 := cn_le (a := 0) (b := (fo_fs G v i).2) (by omega) (by omega) c_50
            refine lv_iinc (v := nI (i + 1)) (lv' := [(5, .int (nI (i + 1))), (6, .int (nI 0)), (0, .ref f), (1, .int (nI v)), (2, .int (nI (fo_r G v))), (3, .int (nI (fo_fs G v i).1)), (4, .int (nI (fo_fs G v i).2))]) hx hb dX0_farthestFrom_60 hl (k := 6) rfl (nI_1 i) (by decide) rfl (fun ls hl => ?_)
            refine lv_goto (tgt := 14) hx hb dX0_farthestFrom_63 (by decide) ?_
            exact ih (i + 1) (by omega) (by omega) ls (by rw [fo_fs_n (fun q => c_30 q.1)]; exact lv_sub hl [2, 3, 4, 5, 6, 0] rfl)
          · skip
            have c_50 := cn_nle (a := 0) (b := (fo_fs G v i).2) (by omega) (by omega) c_50
            exact absurd c_50 (Nat.not_lt_zero _)
        · skip
          have c_30 := cn_eq (a := (fo_r G (i))) (b := (fo_r G v)) (by omega) (by omega) c_30
          refine lv_aload_n hx hb dX0_farthestFrom_33 rfl (lv_at hl 0 rfl) ?_
          refine lv_iload_n hx hb dX0_farthestFrom_34 rfl (lv_at hl 1 rfl) ?_
          refine lv_iload hx hb dX0_farthestFrom_35 (lv_at hl 5 rfl) ?_
          refine rd_call ⟨hx, hb, hml, hown, hts⟩ (c_X0_edgesBetween l D cI cZ f fa fb fc n G va mk F v i hv c_20 (c_30.symm)) (cwV 2 hts gX0_farthestFrom_X0_edgesBetween rfl rfl rfl (by decide +kernel) ⟨Nat.le_of_ble_eq_true rfl, Nat.le_of_ble_eq_true rfl⟩) hP hK rfl rfl rfl hl rfl (Nat.le_of_ble_eq_true rfl) dX0_farthestFrom_37 ⟨Nat.zero_le _, Nat.zero_le _⟩ ?_
          refine lv_goto (tgt := 44) hx hb dX0_farthestFrom_40 (by decide) ?_
          refine lv_istore (lv' := [(6, .int (nI (fo_dist G v i))), (0, .ref f), (1, .int (nI v)), (2, .int (nI (fo_r G v))), (3, .int (nI (fo_fs G v i).1)), (4, .int (nI (fo_fs G v i).2)), (5, .int (nI i))]) hx hb dX0_farthestFrom_44 hl (by decide) rfl (fun ls hl => ?_)
          refine lv_iload hx hb dX0_farthestFrom_46 (lv_at hl 0 rfl) ?_
          refine lv_iload hx hb dX0_farthestFrom_48 (lv_at hl 5 rfl) ?_
          refine lv_icmp_le (tgt := 60) hx hb dX0_farthestFrom_50 (by decide) (fun c_50 => ?_) (fun c_50 => ?_)
          · skip
            have c_50 := cn_le (a := (fo_dist G v i)) (b := (fo_fs G v i).2) (by omega) (by omega) c_50
            refine lv_iinc (v := nI (i + 1)) (lv' := [(5, .int (nI (i + 1))), (6, .int (nI (fo_dist G v i))), (0, .ref f), (1, .int (nI v)), (2, .int (nI (fo_r G v))), (3, .int (nI (fo_fs G v i).1)), (4, .int (nI (fo_fs G v i).2))]) hx hb dX0_farthestFrom_60 hl (k := 6) rfl (nI_1 i) (by decide) rfl (fun ls hl => ?_)
            refine lv_goto (tgt := 14) hx hb dX0_farthestFrom_63 (by decide) ?_
            exact ih (i + 1) (by omega) (by omega) ls (by rw [fo_fs_n (fun q => by have := q.2; omega)]; exact lv_sub hl [2, 3, 4, 5, 6, 0] rfl)
          · skip
            have c_50 := cn_nle (a := (fo_dist G v i)) (b := (fo_fs G v i).2) (by omega) (by omega) c_50
            refine lv_iload hx hb dX0_farthestFrom_53 (lv_at hl 6 rfl) ?_
            refine lv_istore_n (lv' := [(3, .int (nI i)), (6, .int (nI (fo_dist G v i))), (0, .ref f), (1, .int (nI v)), (2, .int (nI (fo_r G v))), (4, .int (nI (fo_fs G v i).2)), (5, .int (nI i))]) hx hb dX0_farthestFrom_55 rfl hl (by decide) rfl (fun ls hl => ?_)
            refine lv_iload hx hb dX0_farthestFrom_56 (lv_at hl 1 rfl) ?_
            refine lv_istore (lv' := [(4, .int (nI (fo_dist G v i))), (3, .int (nI i)), (6, .int (nI (fo_dist G v i))), (0, .ref f), (1, .int (nI v)), (2, .int (nI (fo_r G v))), (5, .int (nI i))]) hx hb dX0_farthestFrom_58 hl (by decide) rfl (fun ls hl => ?_)
            refine lv_iinc (v := nI (i + 1)) (lv' := [(5, .int (nI (i + 1))), (4, .int (nI (fo_dist G v i))), (3, .int (nI i)), (6, .int (nI (fo_dist G v i))), (0, .ref f), (1, .int (nI v)), (2, .int (nI (fo_r G v)))]) hx hb dX0_farthestFrom_60 hl (k := 6) rfl (nI_1 i) (by decide) rfl (fun ls hl => ?_)
            refine lv_goto (tgt := 14) hx hb dX0_farthestFrom_63 (by decide) ?_
            exact ih (i + 1) (by omega) (by omega) ls (by rw [fo_fs_y c_30 (by omega)]; exact lv_sub hl [4, 5, 6, 2, 1, 0] rfl)
  exact L14 (n - 0 + 1) 0 (Nat.zero_le _) (Nat.lt_succ_self _) ls (lv_sub hl [4, 5, 3, 2, 1, 0] rfl)
set_option maxHeartbeats 4000000 in
set_option maxRecDepth 100000 in
theorem c_X0_nearestMarkOf (l : Launch) (D : va_G) (cI cZ : ClassId) (f : Nat) (fa : Nat) (fb : Nat) (fc : Nat) (n : Nat) (G : Nat → Nat) (va : Nat → Int32) (mk : Nat → Bool) (F : fo_ok n G) (v : Nat) (hv : v < n) : RdM l yX0_nearestMarkOf wsX0_nearestMarkOf 5 114 D cI cZ (wF f fa fb fc cI cZ n (fo_cp G) va mk) [.ref f, .int (nI v)] (oI (-1) (fo_ns G mk v n).1) := by
  refine RdM.of (cc := cX0_nearestMarkOf) (maxL := 8) (ret := (some .int)) (by decide) rfl (Nat.le_of_ble_eq_true rfl) ?_
  intro p e s m below meth c hx hb hr hml hown hts hlocks hP hK ls hl
  have hown : s.vm.findClass RX0 = some m.cls := hown
  have hl : lv_has ls 8 [(0, .ref f), (1, .int (nI v))] := hl
  have hf9 := hts (.fieldLink RX0 9 "DynamicForest$Forest" "size" "I") (by decide +kernel)
  have hin0 : ∀ w ∈ u_ws RX0 TX0 4, w ∈ wsX0_nearestMarkOf := by decide +kernel
  have hn : n ≤ 64 := F.2.1
  have hlv := fo_r_lt F hv
  refine lv_aload_n hx hb dX0_nearestMarkOf_0 rfl (lv_at hl 0 rfl) ?_
  refine lv_iload_n hx hb dX0_nearestMarkOf_1 rfl (lv_at hl 1 rfl) ?_
  refine rd_call ⟨hx, hb, hml, hown, hts⟩ (c_X0_rootOf l D cI cZ f fa fb fc n G va mk F (v) (hv)) (cwV 1 hts gX0_nearestMarkOf_X0_rootOf rfl rfl rfl (by decide +kernel) ⟨Nat.le_of_ble_eq_true rfl, Nat.le_of_ble_eq_true rfl⟩) hP hK rfl rfl rfl hl rfl (Nat.le_of_ble_eq_true rfl) dX0_nearestMarkOf_2 ⟨Nat.zero_le _, Nat.zero_le _⟩ ?_
  refine lv_istore_n (lv' := [(2, .int (nI (fo_r G (v)))), (0, .ref f), (1, .int (nI v))]) hx hb dX0_nearestMarkOf_5 rfl hl (by decide) rfl (fun ls hl => ?_)
  refine lv_iconst (v := -1) hx hb dX0_nearestMarkOf_6 (by decide) ?_
  refine lv_istore_n (lv' := [(3, .int (-1)), (2, .int (nI (fo_r G (v)))), (0, .ref f), (1, .int (nI v))]) hx hb dX0_nearestMarkOf_7 rfl hl (by decide) rfl (fun ls hl => ?_)
  refine lv_bipush (v := 64) hx hb dX0_nearestMarkOf_8 (by decide) ?_
  refine lv_istore (lv' := [(4, .int 64), (3, .int (-1)), (2, .int (nI (fo_r G (v)))), (0, .ref f), (1, .int (nI v))]) hx hb dX0_nearestMarkOf_10 hl (by decide) rfl (fun ls hl => ?_)
  refine lv_iconst (v := nI 0) hx hb dX0_nearestMarkOf_12 (by decide) ?_
  refine lv_istore (lv' := [(5, .int (nI 0)), (4, .int 64), (3, .int (-1)), (2, .int (nI (fo_r G (v)))), (0, .ref f), (1, .int (nI v))]) hx hb dX0_nearestMarkOf_13 hl (by decide) rfl (fun ls hl => ?_)
  have L15 : ∀ (k_ : Nat) (i : Nat), i ≤ n → n - i < k_ → ∀ ls, lv_has ls 8 [(0, .ref f), (1, .int (nI v)), (2, .int (nI (fo_r G v))), (3, .int (oI (-1) (fo_ns G mk v i).1)), (4, .int (nI (fo_ns G mk v i).2)), (5, .int (nI i))] → Wr0 p l e wsX0_nearestMarkOf 5 114 s m [.ref f, .int (nI v)] below meth c (oI (-1) (fo_ns G mk v n).1) (F0 m 15 ls []) := by
    intro k_
    induction k_ with
    | zero => intro i hi hk_; exact absurd hk_ (Nat.not_lt_zero _)
    | succ k_ ih =>
      intro i hi hk_ ls hl
      have hms := (fo_ns_le G mk v i).1
      have hds := fo_dist_le F v i
      refine lv_iload hx hb dX0_nearestMarkOf_15 (lv_at hl 5 rfl) ?_
      refine lv_aload_n hx hb dX0_nearestMarkOf_17 rfl (lv_at hl 0 rfl) ?_
      refine va_get (D := D) (ci := 0) (v := .int (nI n)) (C := RX0) (T := TX0) (N := 4) hx hb hts hin0 hown hK hP 0 rfl rfl 0 (by decide) hf9 (fun _ h9 => h9) rfl dX0_nearestMarkOf_18 ?_
      refine lv_icmp_ge (tgt := 89) hx hb dX0_nearestMarkOf_21 (by decide) (fun c_21 => ?_) (fun c_21 => ?_)
      · skip
        have c_21 := cn_le (a := n) (b := i) (by omega) (by omega) c_21
        refine lv_iload_n hx hb dX0_nearestMarkOf_89 rfl (lv_at hl 3 rfl) ?_
        exact rd_i hx hb hr hlocks (by rw [show i = n by omega]) dX0_nearestMarkOf_90
      · skip
        have c_21 := cn_nle (a := n) (b := i) (by omega) (by omega) c_21
        refine lv_aload_n hx hb dX0_nearestMarkOf_24 rfl (lv_at hl 0 rfl) ?_
        refine lv_iload hx hb dX0_nearestMarkOf_25 (lv_at hl 5 rfl) ?_
        refine rd_call ⟨hx, hb, hml, hown, hts⟩ (c_X0_isMarked l D cI cZ f fa fb fc n (fo_cp G) va mk i c_21 hn) (cwV 1 hts gX0_nearestMarkOf_X0_isMarked rfl rfl rfl (by decide +kernel) ⟨Nat.le_of_ble_eq_true rfl, Nat.le_of_ble_eq_true rfl⟩) hP hK rfl rfl rfl hl rfl (Nat.le_of_ble_eq_true rfl) dX0_nearestMarkOf_27 ⟨Nat.zero_le _, Nat.zero_le _⟩ ?_
        refine lv_if_eq (tgt := 47) hx hb dX0_nearestMarkOf_30 (by decide) (fun c_30 => ?_) (fun c_30 => ?_)
        · skip
          have c_30 := bI_0 c_30
          refine lv_iconst (v := 0) hx hb dX0_nearestMarkOf_47 (by decide) ?_
          refine lv_istore (lv' := [(6, .int 0), (0, .ref f), (1, .int (nI v)), (2, .int (nI (fo_r G v))), (3, .int (oI (-1) (fo_ns G mk v i).1)), (4, .int (nI (fo_ns G mk v i).2)), (5, .int (nI i))]) hx hb dX0_nearestMarkOf_48 hl (by decide) rfl (fun ls hl => ?_)
          refine lv_iload hx hb dX0_nearestMarkOf_50 (lv_at hl 0 rfl) ?_
          refine lv_if_eq (tgt := 65) hx hb dX0_nearestMarkOf_52 (by decide) (fun c_52 => ?_) (fun c_52 => ?_)
          · skip
            refine lv_bipush (v := 64) hx hb dX0_nearestMarkOf_65 (by decide) ?_
            refine lv_istore (lv' := [(7, .int 64), (6, .int 0), (0, .ref f), (1, .int (nI v)), (2, .int (nI (fo_r G v))), (3, .int (oI (-1) (fo_ns G mk v i).1)), (4, .int (nI (fo_ns G mk v i).2)), (5, .int (nI i))]) hx hb dX0_nearestMarkOf_67 hl (by decide) rfl (fun ls hl => ?_)
            refine lv_iload hx hb dX0_nearestMarkOf_69 (lv_at hl 0 rfl) ?_
            refine lv_iload hx hb dX0_nearestMarkOf_71 (lv_at hl 6 rfl) ?_
            refine lv_icmp_ge (tgt := 83) hx hb dX0_nearestMarkOf_73 (by decide) (fun c_73 => ?_) (fun c_73 => ?_)
            · skip
              have c_73 := cn_le (a := (fo_ns G mk v i).2) (b := 64) (by omega) (by omega) c_73
              refine lv_iinc (v := nI (i + 1)) (lv' := [(5, .int (nI (i + 1))), (7, .int 64), (6, .int 0), (0, .ref f), (1, .int (nI v)), (2, .int (nI (fo_r G v))), (3, .int (oI (-1) (fo_ns G mk v i).1)), (4, .int (nI (fo_ns G mk v i).2))]) hx hb dX0_nearestMarkOf_83 hl (k := 7) rfl (nI_1 i) (by decide) rfl (fun ls hl => ?_)
              refine lv_goto (tgt := 15) hx hb dX0_nearestMarkOf_86 (by decide) ?_
              exact ih (i + 1) (by omega) (by omega) ls (by rw [fo_ns_n (fun q => by rw [c_30] at q; exact absurd q.1 (by decide))]; exact lv_sub hl [3, 4, 5, 6, 7, 0] rfl)
            · skip
              have c_73 := cn_nle (a := (fo_ns G mk v i).2) (b := 64) (by omega) (by omega) c_73
              exact absurd hms (by omega)
          · skip
            exact absurd rfl c_52
        · skip
          have c_30 := bI_1 c_30
          refine lv_aload_n hx hb dX0_nearestMarkOf_33 rfl (lv_at hl 0 rfl) ?_
          refine lv_iload hx hb dX0_nearestMarkOf_34 (lv_at hl 5 rfl) ?_
          refine rd_call ⟨hx, hb, hml, hown, hts⟩ (c_X0_rootOf l D cI cZ f fa fb fc n G va mk F (i) (c_21)) (cwV 1 hts gX0_nearestMarkOf_X0_rootOf rfl rfl rfl (by decide +kernel) ⟨Nat.le_of_ble_eq_true rfl, Nat.le_of_ble_eq_true rfl⟩) hP hK rfl rfl rfl hl rfl (Nat.le_of_ble_eq_true rfl) dX0_nearestMarkOf_36 ⟨Nat.zero_le _, Nat.zero_le _⟩ ?_
          refine lv_iload_n hx hb dX0_nearestMarkOf_39 rfl (lv_at hl 2 rfl) ?_
          have hli := fo_r_lt F c_21
          refine lv_icmp_ne (tgt := 47) hx hb dX0_nearestMarkOf_40 (by decide) (fun c_40 => ?_) (fun c_40 => ?_)
          · skip
            have c_40 := cn_ne (a := (fo_r G (i))) (b := (fo_r G v)) (by omega) (by omega) c_40
            refine lv_iconst (v := 0) hx hb dX0_nearestMarkOf_47 (by decide) ?_
            refine lv_istore (lv' := [(6, .int 0), (0, .ref f), (1, .int (nI v)), (2, .int (nI (fo_r G v))), (3, .int (oI (-1) (fo_ns G mk v i).1)), (4, .int (nI (fo_ns G mk v i).2)), (5, .int (nI i))]) hx hb dX0_nearestMarkOf_48 hl (by decide) rfl (fun ls hl => ?_)
            refine lv_iload hx hb dX0_nearestMarkOf_50 (lv_at hl 0 rfl) ?_
            refine lv_if_eq (tgt := 65) hx hb dX0_nearestMarkOf_52 (by decide) (fun c_52 => ?_) (fun c_52 => ?_)
            · skip
              refine lv_bipush (v := 64) hx hb dX0_nearestMarkOf_65 (by decide) ?_
              refine lv_istore (lv' := [(7, .int 64), (6, .int 0), (0, .ref f), (1, .int (nI v)), (2, .int (nI (fo_r G v))), (3, .int (oI (-1) (fo_ns G mk v i).1)), (4, .int (nI (fo_ns G mk v i).2)), (5, .int (nI i))]) hx hb dX0_nearestMarkOf_67 hl (by decide) rfl (fun ls hl => ?_)
              refine lv_iload hx hb dX0_nearestMarkOf_69 (lv_at hl 0 rfl) ?_
              refine lv_iload hx hb dX0_nearestMarkOf_71 (lv_at hl 6 rfl) ?_
              refine lv_icmp_ge (tgt := 83) hx hb dX0_nearestMarkOf_73 (by decide) (fun c_73 => ?_) (fun c_73 => ?_)
              · skip
                have c_73 := cn_le (a := (fo_ns G mk v i).2) (b := 64) (by omega) (by omega) c_73
                refine lv_iinc (v := nI (i + 1)) (lv' := [(5, .int (nI (i + 1))), (7, .int 64), (6, .int 0), (0, .ref f), (1, .int (nI v)), (2, .int (nI (fo_r G v))), (3, .int (oI (-1) (fo_ns G mk v i).1)), (4, .int (nI (fo_ns G mk v i).2))]) hx hb dX0_nearestMarkOf_83 hl (k := 7) rfl (nI_1 i) (by decide) rfl (fun ls hl => ?_)
                refine lv_goto (tgt := 15) hx hb dX0_nearestMarkOf_86 (by decide) ?_
                exact ih (i + 1) (by omega) (by omega) ls (by rw [fo_ns_n (fun q => c_40 q.2.1)]; exact lv_sub hl [3, 4, 5, 6, 7, 0] rfl)
              · skip
                have c_73 := cn_nle (a := (fo_ns G mk v i).2) (b := 64) (by omega) (by omega) c_73
                exact absurd hms (by omega)
            · skip
              exact absurd rfl c_52
          · skip
            have c_40 := cn_eq (a := (fo_r G (i))) (b := (fo_r G v)) (by omega) (by omega) c_40
            refine lv_iconst (v := 1) hx hb dX0_nearestMarkOf_43 (by decide) ?_
            refine lv_goto (tgt := 48) hx hb dX0_nearestMarkOf_44 (by decide) ?_
            refine lv_istore (lv' := [(6, .int 1), (0, .ref f), (1, .int (nI v)), (2, .int (nI (fo_r G v))), (3, .int (oI (-1) (fo_ns G mk v i).1)), (4, .int (nI (fo_ns G mk v i).2)), (5, .int (nI i))]) hx hb dX0_nearestMarkOf_48 hl (by decide) rfl (fun ls hl => ?_)
            refine lv_iload hx hb dX0_nearestMarkOf_50 (lv_at hl 0 rfl) ?_
            refine lv_if_eq (tgt := 65) hx hb dX0_nearestMarkOf_52 (by decide) (fun c_52 => ?_) (fun c_52 => ?_)
            · skip
              exact absurd c_52 (by decide)
            · skip
              refine lv_aload_n hx hb dX0_nearestMarkOf_55 rfl (lv_at hl 1 rfl) ?_
              refine lv_iload_n hx hb dX0_nearestMarkOf_56 rfl (lv_at hl 2 rfl) ?_
              refine lv_iload hx hb dX0_nearestMarkOf_57 (lv_at hl 6 rfl) ?_
              refine rd_call ⟨hx, hb, hml, hown, hts⟩ (c_X0_edgesBetween l D cI cZ f fa fb fc n G va mk F v i hv c_21 (c_40.symm)) (cwV 2 hts gX0_nearestMarkOf_X0_edgesBetween rfl rfl rfl (by decide +kernel) ⟨Nat.le_of_ble_eq_true rfl, Nat.le_of_ble_eq_true rfl⟩) hP hK rfl rfl rfl hl rfl (Nat.le_of_ble_eq_true rfl) dX0_nearestMarkOf_59 ⟨Nat.zero_le _, Nat.zero_le _⟩ ?_
              refine lv_goto (tgt := 67) hx hb dX0_nearestMarkOf_62 (by decide) ?_
              refine lv_istore (lv' := [(7, .int (nI (fo_dist G v i))), (6, .int 1), (0, .ref f), (1, .int (nI v)), (2, .int (nI (fo_r G v))), (3, .int (oI (-1) (fo_ns G mk v i).1)), (4, .int (nI (fo_ns G mk v i).2)), (5, .int (nI i))]) hx hb dX0_nearestMarkOf_67 hl (by decide) rfl (fun ls hl => ?_)
              refine lv_iload hx hb dX0_nearestMarkOf_69 (lv_at hl 0 rfl) ?_
              refine lv_iload hx hb dX0_nearestMarkOf_71 (lv_at hl 6 rfl) ?_
              refine lv_icmp_ge (tgt := 83) hx hb dX0_nearestMarkOf_73 (by decide) (fun c_73 => ?_) (fun c_73 => ?_)
              · skip
                have c_73 := cn_le (a := (fo_ns G mk v i).2) (b := (fo_dist G v i)) (by omega) (by omega) c_73
                refine lv_iinc (v := nI (i + 1)) (lv' := [(5, .int (nI (i + 1))), (7, .int (nI (fo_dist G v i))), (6, .int 1), (0, .ref f), (1, .int (nI v)), (2, .int (nI (fo_r G v))), (3, .int (oI (-1) (fo_ns G mk v i).1)), (4, .int (nI (fo_ns G mk v i).2))]) hx hb dX0_nearestMarkOf_83 hl (k := 7) rfl (nI_1 i) (by decide) rfl (fun ls hl => ?_)
                refine lv_goto (tgt := 15) hx hb dX0_nearestMarkOf_86 (by decide) ?_
                exact ih (i + 1) (by omega) (by omega) ls (by rw [fo_ns_n (fun q => by have := q.2.2; omega)]; exact lv_sub hl [3, 4, 5, 6, 7, 0] rfl)
              · skip
                have c_73 := cn_nle (a := (fo_ns G mk v i).2) (b := (fo_dist G v i)) (by omega) (by omega) c_73
                refine lv_iload hx hb dX0_nearestMarkOf_76 (lv_at hl 7 rfl) ?_
                refine lv_istore_n (lv' := [(3, .int (nI i)), (7, .int (nI (fo_dist G v i))), (6, .int 1), (0, .ref f), (1, .int (nI v)), (2, .int (nI (fo_r G v))), (4, .int (nI (fo_ns G mk v i).2)), (5, .int (nI i))]) hx hb dX0_nearestMarkOf_78 rfl hl (by decide) rfl (fun ls hl => ?_)
                refine lv_iload hx hb dX0_nearestMarkOf_79 (lv_at hl 1 rfl) ?_
                refine lv_istore (lv' := [(4, .int (nI (fo_dist G v i))), (3, .int (nI i)), (7, .int (nI (fo_dist G v i))), (6, .int 1), (0, .ref f), (1, .int (nI v)), (2, .int (nI (fo_r G v))), (5, .int (nI i))]) hx hb dX0_nearestMarkOf_81 hl (by decide) rfl (fun ls hl => ?_)
                refine lv_iinc (v := nI (i + 1)) (lv' := [(5, .int (nI (i + 1))), (4, .int (nI (fo_dist G v i))), (3, .int (nI i)), (7, .int (nI (fo_dist G v i))), (6, .int 1), (0, .ref f), (1, .int (nI v)), (2, .int (nI (fo_r G v)))]) hx hb dX0_nearestMarkOf_83 hl (k := 7) rfl (nI_1 i) (by decide) rfl (fun ls hl => ?_)
                refine lv_goto (tgt := 15) hx hb dX0_nearestMarkOf_86 (by decide) ?_
                exact ih (i + 1) (by omega) (by omega) ls (by rw [fo_ns_y c_30 c_40 (by omega)]; exact lv_sub hl [5, 6, 7, 2, 1, 0] rfl)
  exact L15 (n - 0 + 1) 0 (Nat.zero_le _) (Nat.lt_succ_self _) ls (lv_sub hl [4, 5, 3, 2, 1, 0] rfl)
set_option maxHeartbeats 4000000 in
set_option maxRecDepth 100000 in
theorem c_X0_turnTowards (l : Launch) (D : va_G) (cI cZ : ClassId) (f : Nat) (fa : Nat) (fb : Nat) (fc : Nat) (n : Nat) (G : Nat → Nat) (va : Nat → Int32) (mk : Nat → Bool) (F : fo_ok n G) (v : Nat) (hv : v < n) : WrM l yX0_turnTowards wsX0_turnTowards 3 65 D cI cZ (wF f fa fb fc cI cZ n (fo_cp G) va mk) (wF f fa fb fc cI cZ n (fo_cp (fo_rr G v)) va mk) [.ref f, .int (nI v)] none := by
  refine WrM.of (cc := cX0_turnTowards) (maxL := 7) (ret := none) (by decide) rfl (Nat.le_of_ble_eq_true rfl) ?_
  intro p e s m below meth c hx hb hr hml hown hts hlocks hP hK hD hS ls hl
  have hown : s.vm.findClass RX0 = some m.cls := hown
  have hl : lv_has ls 7 [(0, .ref f), (1, .int (nI v))] := hl
  have hP : va_P D vwCl (wF f fa fb fc cI cZ n (fo_cp G) va mk) s.heap := hP
  have hn : n ≤ 64 := F.2.1
  have hd63 := fo_d_le F v
  refine lv_aload_n hx hb dX0_turnTowards_0 rfl (lv_at hl 0 rfl) ?_
  refine lv_iload_n hx hb dX0_turnTowards_1 rfl (lv_at hl 1 rfl) ?_
  refine rd_call ⟨hx, hb, hml, hown, hts⟩ (c_X0_depthOf l D cI cZ f fa fb fc n G va mk F (v) (hv)) (cwV 1 hts gX0_turnTowards_X0_depthOf rfl rfl rfl (by decide +kernel) ⟨Nat.le_of_ble_eq_true rfl, Nat.le_of_ble_eq_true rfl⟩) hP hK rfl rfl rfl hl rfl (Nat.le_of_ble_eq_true rfl) dX0_turnTowards_2 ⟨Nat.zero_le _, Nat.zero_le _⟩ ?_
  refine lv_istore_n (lv' := [(2, .int (nI (fo_d G (v)))), (0, .ref f), (1, .int (nI v))]) hx hb dX0_turnTowards_5 rfl hl (by decide) rfl (fun ls hl => ?_)
  refine lv_iconst (v := -1) hx hb dX0_turnTowards_6 (by decide) ?_
  refine lv_istore_n (lv' := [(3, .int (-1)), (2, .int (nI (fo_d G (v)))), (0, .ref f), (1, .int (nI v))]) hx hb dX0_turnTowards_7 rfl hl (by decide) rfl (fun ls hl => ?_)
  refine lv_iload_n hx hb dX0_turnTowards_8 rfl (lv_at hl 3 rfl) ?_
  refine lv_istore (lv' := [(4, .int (nI v)), (3, .int (-1)), (2, .int (nI (fo_d G (v)))), (0, .ref f), (1, .int (nI v))]) hx hb dX0_turnTowards_9 hl (by decide) rfl (fun ls hl => ?_)
  refine lv_iconst (v := nI 0) hx hb dX0_turnTowards_11 (by decide) ?_
  refine lv_istore (lv' := [(5, .int (nI 0)), (4, .int (nI v)), (3, .int (-1)), (2, .int (nI (fo_d G (v)))), (0, .ref f), (1, .int (nI v))]) hx hb dX0_turnTowards_12 hl (by decide) rfl (fun ls hl => ?_)
  have L14 : ∀ (k_ : Nat) (i : Nat), i ≤ fo_d G v + 1 → fo_d G v + 1 - i < k_ → ∀ (H : Heap) (locs : List Loc), va_P D vwCl (wF f fa fb fc cI cZ n (fo_cp (fo_rs G v i)) va mk) H → va_D (adr (wF f fa fb fc cI cZ n (fo_cp G) va mk)) (wF f fa fb fc cI cZ n (fo_cp (fo_rs G v i)) va mk) → va_S (adr (wF f fa fb fc cI cZ n (fo_cp G) va mk)) s.heap H locs → ∀ ls, lv_has ls 7 [(0, .ref f), (1, .int (nI v)), (2, .int (nI (fo_d G v))), (3, .int (twb G v i)), (4, .int (twa G v i)), (5, .int (nI i))] → Ww0 p l e wsX0_turnTowards 3 65 s m [.ref f, .int (nI v)] below meth c D (wF f fa fb fc cI cZ n (fo_cp G) va mk) (wF f fa fb fc cI cZ n (fo_cp (fo_rr G v)) va mk) none H locs (F0 m 14 ls []) := by
    intro k_
    induction k_ with
    | zero => intro i hi hk_; exact absurd hk_ (Nat.not_lt_zero _)
    | succ k_ ih =>
      intro i hi hk_ H locs hP hD hS ls hl
      refine lv_iload hx hb dX0_turnTowards_14 (lv_at hl 5 rfl) ?_
      refine lv_iload_n hx hb dX0_turnTowards_16 rfl (lv_at hl 2 rfl) ?_
      refine lv_icmp_gt (tgt := 48) hx hb dX0_turnTowards_17 (by decide) (fun c_17 => ?_) (fun c_17 => ?_)
      · skip
        have c_17 := cn_lt (a := (fo_d G v)) (b := i) (by omega) (by omega) c_17
        have e48 : fo_rr G v = fo_rs G v i := by unfold fo_rr; rw [show fo_d G v + 1 = i by omega]
        rw [← e48] at hP
        exact wr_v hx hb hr hlocks hP hS dX0_turnTowards_48
      · skip
        have c_17 := cn_nlt (a := (fo_d G v)) (b := i) (by omega) (by omega) c_17
        rw [twa_le c_17] at hl
        refine lv_aload_n hx hb dX0_turnTowards_20 rfl (lv_at hl 0 rfl) ?_
        refine lv_iload hx hb dX0_turnTowards_21 (lv_at hl 4 rfl) ?_
        refine rd_call ⟨hx, hb, hml, hown, hts⟩ (c_X0_parentOf l D cI cZ f fa fb fc n (fo_cp (fo_rs G v i)) va mk (fo_up G i v) (fo_lt F hv i) hn) (cwV 1 hts gX0_turnTowards_X0_parentOf rfl rfl rfl (by decide +kernel) ⟨Nat.le_of_ble_eq_true rfl, Nat.le_of_ble_eq_true rfl⟩) hP hK rfl rfl rfl hl rfl (Nat.le_of_ble_eq_true rfl) dX0_turnTowards_23 ⟨Nat.zero_le _, Nat.zero_le _⟩ ?_
        rw [turn_at F c_17]
        refine lv_istore (lv' := [(6, .int (twa G v (i + 1))), (0, .ref f), (1, .int (nI v)), (2, .int (nI (fo_d G v))), (3, .int (twb G v i)), (4, .int (nI (fo_up G i v))), (5, .int (nI i))]) hx hb dX0_turnTowards_26 hl (by decide) rfl (fun ls hl => ?_)
        refine lv_aload_n hx hb dX0_turnTowards_28 rfl (lv_at hl 1 rfl) ?_
        refine lv_iload hx hb dX0_turnTowards_29 (lv_at hl 5 rfl) ?_
        refine lv_iload_n hx hb dX0_turnTowards_31 rfl (lv_at hl 4 rfl) ?_
        refine wr_call (V1 := wF f fa fb fc cI cZ n (upd (fo_cp (fo_rs G v i)) (fo_up G i v) (twb G v i)) va mk) ⟨hx, hb, hml, hown, hts⟩ (c_X0_putParent l D cI cZ f fa fb fc n (fo_cp (fo_rs G v i)) va mk (fo_up G i v) (fo_lt F hv i) hn (twb G v i)) (cwV 2 hts gX0_turnTowards_X0_putParent rfl rfl rfl (by decide +kernel) ⟨Nat.le_of_ble_eq_true rfl, Nat.le_of_ble_eq_true rfl⟩) hP hK hD hS [0, 1, 2, 3] [] [0, 1, 2, 3] rfl rfl (by decide) rfl rfl rfl rfl rfl hl rfl (Nat.le_of_ble_eq_true rfl) dX0_turnTowards_32 ⟨Nat.zero_le _, Nat.zero_le _⟩ (fun H locs hP hD hS => ?_)
        rw [turn_set F c_17] at hP
        have hD : va_D (adr (wF f fa fb fc cI cZ n (fo_cp G) va mk)) (wF f fa fb fc cI cZ n (fo_cp (fo_rs G v (i + 1))) va mk) := vd_same hD rfl
        refine lv_iload hx hb dX0_turnTowards_35 (lv_at hl 5 rfl) ?_
        refine lv_istore_n (lv' := [(3, .int (nI (fo_up G i v))), (6, .int (twa G v (i + 1))), (0, .ref f), (1, .int (nI v)), (2, .int (nI (fo_d G v))), (4, .int (nI (fo_up G i v))), (5, .int (nI i))]) hx hb dX0_turnTowards_37 rfl hl (by decide) rfl (fun ls hl => ?_)
        refine lv_iload hx hb dX0_turnTowards_38 (lv_at hl 1 rfl) ?_
        refine lv_istore (lv' := [(4, .int (twa G v (i + 1))), (3, .int (nI (fo_up G i v))), (6, .int (twa G v (i + 1))), (0, .ref f), (1, .int (nI v)), (2, .int (nI (fo_d G v))), (5, .int (nI i))]) hx hb dX0_turnTowards_40 hl (by decide) rfl (fun ls hl => ?_)
        refine lv_iinc (v := nI (i + 1)) (lv' := [(5, .int (nI (i + 1))), (4, .int (twa G v (i + 1))), (3, .int (nI (fo_up G i v))), (6, .int (twa G v (i + 1))), (0, .ref f), (1, .int (nI v)), (2, .int (nI (fo_d G v)))]) hx hb dX0_turnTowards_42 hl (k := 6) rfl (nI_1 i) (by decide) rfl (fun ls hl => ?_)
        refine lv_goto (tgt := 14) hx hb dX0_turnTowards_45 (by decide) ?_
        exact ih (i + 1) (by omega) (by omega) _ _ hP hD hS ls (lv_sub hl [4, 5, 6, 2, 1, 0] rfl)
  exact L14 (fo_d G v + 1 - 0 + 1) 0 (Nat.zero_le _) (Nat.lt_succ_self _) _ _ hP hD hS ls (by rw [show twa G v 0 = nI v from twa_le (Nat.zero_le _)]; exact lv_sub hl [4, 5, 3, 2, 1, 0] rfl)
set_option maxHeartbeats 4000000 in
set_option maxRecDepth 100000 in
theorem c_X1_length (l : Launch) (D : va_G) (cI cZ : ClassId) (h : Nat) (hq : Nat) (vs : Nat → Int32) (L : Nat) (hL : L ≤ 64) : RdM l yX1_length wsX1_length 0 0 D cI cZ (wP h hq cI vs (nI L)) [.ref h] (nI L) := by
  refine RdM.of (cc := cX1_length) (maxL := 1) (ret := (some .int)) (by decide) rfl (Nat.le_of_ble_eq_true rfl) ?_
  intro p e s m below meth c hx hb hr hml hown hts hlocks hP hK ls hl
  have hown : s.vm.findClass RX1 = some m.cls := hown
  have hl : lv_has ls 1 [(0, .ref h)] := hl
  have hf15 := hts (.fieldLink RX1 15 "DynamicForest$Path" "length" "I") (by decide +kernel)
  have hin1 : ∀ w ∈ u_ws RX1 TX1 2, w ∈ wsX1_length := by decide +kernel
  refine lv_aload_n hx hb dX1_length_0 rfl (lv_at hl 0 rfl) ?_
  refine va_get (D := D) (ci := 1) (v := .int (nI L)) (C := RX1) (T := TX1) (N := 2) hx hb hts hin1 hown hK hP 0 rfl rfl 1 (by decide) hf15 (fun _ h9 => h9) rfl dX1_length_1 ?_
  exact rd_i hx hb hr hlocks rfl dX1_length_4
set_option maxHeartbeats 4000000 in
set_option maxRecDepth 100000 in
theorem c_X1_hasIndex (l : Launch) (D : va_G) (cI cZ : ClassId) (h : Nat) (hq : Nat) (vs : Nat → Int32) (L : Nat) (hL : L ≤ 64) (v : Int32) : RdM l yX1_hasIndex wsX1_hasIndex 0 0 D cI cZ (wP h hq cI vs (nI L)) [.ref h, .int v] (bI (hasB L v)) := by
  refine RdM.of (cc := cX1_hasIndex) (maxL := 2) (ret := (some .boolean)) (by decide) rfl (Nat.le_of_ble_eq_true rfl) ?_
  intro p e s m below meth c hx hb hr hml hown hts hlocks hP hK ls hl
  have hown : s.vm.findClass RX1 = some m.cls := hown
  have hl : lv_has ls 2 [(0, .ref h), (1, .int v)] := hl
  have hf15 := hts (.fieldLink RX1 15 "DynamicForest$Path" "length" "I") (by decide +kernel)
  have hin1 : ∀ w ∈ u_ws RX1 TX1 2, w ∈ wsX1_hasIndex := by decide +kernel
  refine lv_iload_n hx hb dX1_hasIndex_0 rfl (lv_at hl 1 rfl) ?_
  refine lv_if_lt (tgt := 22) hx hb dX1_hasIndex_1 (by decide) (fun c_1 => ?_) (fun c_1 => ?_)
  · skip
    refine lv_iconst (v := 0) hx hb dX1_hasIndex_22 (by decide) ?_
    exact rd_z hx hb hr hlocks (by simp [hasB, bI, c_1]) dX1_hasIndex_23
  · skip
    refine lv_iload_n hx hb dX1_hasIndex_4 rfl (lv_at hl 1 rfl) ?_
    refine lv_aload_n hx hb dX1_hasIndex_5 rfl (lv_at hl 0 rfl) ?_
    refine va_get (D := D) (ci := 1) (v := .int (nI L)) (C := RX1) (T := TX1) (N := 2) hx hb hts hin1 hown hK hP 0 rfl rfl 1 (by decide) hf15 (fun _ h9 => h9) rfl dX1_hasIndex_6 ?_
    refine lv_icmp_ge (tgt := 22) hx hb dX1_hasIndex_9 (by decide) (fun c_9 => ?_) (fun c_9 => ?_)
    · skip
      refine lv_iconst (v := 0) hx hb dX1_hasIndex_22 (by decide) ?_
      exact rd_z hx hb hr hlocks (by simp [hasB, bI, c_9]) dX1_hasIndex_23
    · skip
      refine lv_iload_n hx hb dX1_hasIndex_12 rfl (lv_at hl 1 rfl) ?_
      refine lv_bipush (v := 64) hx hb dX1_hasIndex_13 (by decide) ?_
      refine lv_icmp_ge (tgt := 22) hx hb dX1_hasIndex_15 (by decide) (fun c_15 => ?_) (fun c_15 => ?_)
      · skip
        refine lv_iconst (v := 0) hx hb dX1_hasIndex_22 (by decide) ?_
        exact rd_z hx hb hr hlocks (by simp [hasB, bI, c_15]) dX1_hasIndex_23
      · skip
        refine lv_iconst (v := 1) hx hb dX1_hasIndex_18 (by decide) ?_
        refine lv_goto (tgt := 23) hx hb dX1_hasIndex_19 (by decide) ?_
        exact rd_z hx hb hr hlocks (by simp [hasB, bI, c_1, c_9, c_15]) dX1_hasIndex_23
set_option maxHeartbeats 4000000 in
set_option maxRecDepth 100000 in
theorem c_X1_vertexAt (l : Launch) (D : va_G) (cI cZ : ClassId) (h : Nat) (hq : Nat) (vs : Nat → Int32) (L : Nat) (hL : L ≤ 64) (j : Nat) (hj : j < L) : RdM l yX1_vertexAt wsX1_vertexAt 1 21 D cI cZ (wP h hq cI vs (nI L)) [.ref h, .int (nI j)] (vs j) := by
  refine RdM.of (cc := cX1_vertexAt) (maxL := 2) (ret := (some .int)) (by decide) rfl (Nat.le_of_ble_eq_true rfl) ?_
  intro p e s m below meth c hx hb hr hml hown hts hlocks hP hK ls hl
  have hown : s.vm.findClass RX1 = some m.cls := hown
  have hl : lv_has ls 2 [(0, .ref h), (1, .int (nI j))] := hl
  have hf9 := hts (.fieldLink RX1 9 "DynamicForest$Path" "vertices" "[I") (by decide +kernel)
  have hin1 : ∀ w ∈ u_ws RX1 TX1 2, w ∈ wsX1_vertexAt := by decide +kernel
  refine lv_aload_n hx hb dX1_vertexAt_0 rfl (lv_at hl 0 rfl) ?_
  refine lv_iload_n hx hb dX1_vertexAt_1 rfl (lv_at hl 1 rfl) ?_
  refine rd_call ⟨hx, hb, hml, hown, hts⟩ (c_X1_hasIndex l D cI cZ h hq vs L hL (nI j)) (cwV 1 hts gX1_vertexAt_X1_hasIndex rfl rfl rfl (by decide +kernel) ⟨Nat.le_of_ble_eq_true rfl, Nat.le_of_ble_eq_true rfl⟩) hP hK rfl rfl rfl hl rfl (Nat.le_of_ble_eq_true rfl) dX1_vertexAt_2 ⟨Nat.zero_le _, Nat.zero_le _⟩ ?_
  refine lv_if_eq (tgt := 17) hx hb dX1_vertexAt_5 (by decide) (fun c_5 => ?_) (fun c_5 => ?_)
  · skip
    have c_5 := bI_0 c_5
    exact hasB_x hj hL c_5
  · skip
    have c_5 := bI_1 c_5
    refine lv_aload_n hx hb dX1_vertexAt_8 rfl (lv_at hl 0 rfl) ?_
    refine va_get (D := D) (ci := 1) (v := .ref hq) (C := RX1) (T := TX1) (N := 2) hx hb hts hin1 hown hK hP 0 rfl rfl 0 (by decide) hf9 (fun _ h9 => h9) rfl dX1_vertexAt_9 ?_
    refine lv_iload_n hx hb dX1_vertexAt_12 rfl (lv_at hl 1 rfl) ?_
    refine ar_i (tys := []) hx hb hK hP 1 rfl (k := j) (by omega) (by decide) dX1_vertexAt_13 ?_
    refine lv_goto (tgt := 18) hx hb dX1_vertexAt_14 (by decide) ?_
    exact rd_i hx hb hr hlocks rfl dX1_vertexAt_18
set_option maxHeartbeats 4000000 in
set_option maxRecDepth 100000 in
theorem c_X1_append (l : Launch) (D : va_G) (cI cZ : ClassId) (h : Nat) (hq : Nat) (vs : Nat → Int32) (L : Nat) (hL : L ≤ 64) (x : Int32) (hL2 : L < 64) : WrM l yX1_append wsX1_append 0 0 D cI cZ (wP h hq cI vs (nI L)) (wP h hq cI (upd vs L x) (nI (L + 1))) [.ref h, .int x] none := by
  refine WrM.of (cc := cX1_append) (maxL := 2) (ret := none) (by decide) rfl (Nat.le_of_ble_eq_true rfl) ?_
  intro p e s m below meth c hx hb hr hml hown hts hlocks hP hK hD hS ls hl
  have hown : s.vm.findClass RX1 = some m.cls := hown
  have hl : lv_has ls 2 [(0, .ref h), (1, .int x)] := hl
  have hP : va_P D vwCl (wP h hq cI vs (nI L)) s.heap := hP
  have hf15 := hts (.fieldLink RX1 15 "DynamicForest$Path" "length" "I") (by decide +kernel)
  have hf9 := hts (.fieldLink RX1 9 "DynamicForest$Path" "vertices" "[I") (by decide +kernel)
  have hin1 : ∀ w ∈ u_ws RX1 TX1 2, w ∈ wsX1_append := by decide +kernel
  refine lv_aload_n hx hb dX1_append_0 rfl (lv_at hl 0 rfl) ?_
  refine va_get (D := D) (ci := 1) (v := .int (nI L)) (C := RX1) (T := TX1) (N := 2) hx hb hts hin1 hown hK hP 0 rfl rfl 1 (by decide) hf15 (fun _ h9 => h9) rfl dX1_append_1 ?_
  refine lv_if_lt (tgt := 36) hx hb dX1_append_4 (by decide) (fun c_4 => ?_) (fun c_4 => ?_)
  · skip
    exact absurd c_4 (nI_pos (by omega))
  · skip
    refine lv_aload_n hx hb dX1_append_7 rfl (lv_at hl 0 rfl) ?_
    refine va_get (D := D) (ci := 1) (v := .int (nI L)) (C := RX1) (T := TX1) (N := 2) hx hb hts hin1 hown hK hP 0 rfl rfl 1 (by decide) hf15 (fun _ h9 => h9) rfl dX1_append_8 ?_
    refine lv_bipush (v := 64) hx hb dX1_append_11 (by decide) ?_
    refine lv_icmp_ge (tgt := 36) hx hb dX1_append_13 (by decide) (fun c_13 => ?_) (fun c_13 => ?_)
    · skip
      have c_13 := cn_le (a := 64) (b := L) (by omega) (by omega) c_13
      exact absurd hL2 (by omega)
    · skip
      have c_13 := cn_nle (a := 64) (b := L) (by omega) (by omega) c_13
      refine lv_aload_n hx hb dX1_append_16 rfl (lv_at hl 0 rfl) ?_
      refine va_get (D := D) (ci := 1) (v := .ref hq) (C := RX1) (T := TX1) (N := 2) hx hb hts hin1 hown hK hP 0 rfl rfl 0 (by decide) hf9 (fun _ h9 => h9) rfl dX1_append_17 ?_
      refine lv_aload_n hx hb dX1_append_20 rfl (lv_at hl 0 rfl) ?_
      refine va_get (D := D) (ci := 1) (v := .int (nI L)) (C := RX1) (T := TX1) (N := 2) hx hb hts hin1 hown hK hP 0 rfl rfl 1 (by decide) hf15 (fun _ h9 => h9) rfl dX1_append_21 ?_
      refine lv_iload_n hx hb dX1_append_24 rfl (lv_at hl 1 rfl) ?_
      refine ar_is hx hb hK hP hD hS 1 rfl (k := L) (by omega) (by decide) dX1_append_25 (fun H locs hP hD hS => ?_)
      have hP : va_P D vwCl (wP h hq cI (upd vs L x) (nI L)) H := hP
      have hD : va_D (adr (wP h hq cI vs (nI L))) (wP h hq cI (upd vs L x) (nI L)) := vd_same hD rfl
      refine lv_aload_n hx hb dX1_append_26 rfl (lv_at hl 0 rfl) ?_
      refine lv_dup hx hb dX1_append_27 rfl ?_
      refine va_get (D := D) (ci := 1) (v := .int (nI L)) (C := RX1) (T := TX1) (N := 2) hx hb hts hin1 hown hK hP 0 rfl rfl 1 (by decide) hf15 (fun _ h9 => h9) rfl dX1_append_28 ?_
      refine lv_iconst (v := 1) hx hb dX1_append_31 (by decide) ?_
      refine lv_iadd hx hb dX1_append_32 ?_
      rw [nI_1]
      refine va_put (D := D) (ci := 1) (v := .int (nI (L + 1))) (ty := .int) (C := RX1) (T := TX1) (N := 2) hx hb hts hin1 tyX1 tyX1_ok nmX1 hown hK hP hD hS 0 rfl rfl 1 (by decide) hf15 (fun _ h9 => h9) rfl (by decide +kernel) rfl rfl (Nat.le_of_ble_eq_true rfl) dX1_append_33 (fun H locs hP hD hS => ?_)
      have hP : va_P D vwCl (wP h hq cI (upd vs L x) (nI (L + 1))) H := hP
      have hD : va_D (adr (wP h hq cI vs (nI L))) (wP h hq cI (upd vs L x) (nI (L + 1))) := vd_same hD rfl
      exact wr_v hx hb hr hlocks hP hS dX1_append_36
set_option maxHeartbeats 4000000 in
set_option maxRecDepth 100000 in
theorem c_X1_swap (l : Launch) (D : va_G) (cI cZ : ClassId) (h : Nat) (hq : Nat) (vs : Nat → Int32) (L : Nat) (hL : L ≤ 64) (i : Nat) (j : Nat) (hi : i < L) (hj : j < L) : WrM l yX1_swap wsX1_swap 1 21 D cI cZ (wP h hq cI vs (nI L)) (wP h hq cI (upd (upd vs i (vs j)) j (vs i)) (nI L)) [.ref h, .int (nI i), .int (nI j)] none := by
  refine WrM.of (cc := cX1_swap) (maxL := 4) (ret := none) (by decide) rfl (Nat.le_of_ble_eq_true rfl) ?_
  intro p e s m below meth c hx hb hr hml hown hts hlocks hP hK hD hS ls hl
  have hown : s.vm.findClass RX1 = some m.cls := hown
  have hl : lv_has ls 4 [(0, .ref h), (1, .int (nI i)), (2, .int (nI j))] := hl
  have hP : va_P D vwCl (wP h hq cI vs (nI L)) s.heap := hP
  have hf9 := hts (.fieldLink RX1 9 "DynamicForest$Path" "vertices" "[I") (by decide +kernel)
  have hin1 : ∀ w ∈ u_ws RX1 TX1 2, w ∈ wsX1_swap := by decide +kernel
  refine lv_aload_n hx hb dX1_swap_0 rfl (lv_at hl 0 rfl) ?_
  refine lv_iload_n hx hb dX1_swap_1 rfl (lv_at hl 1 rfl) ?_
  refine rd_call ⟨hx, hb, hml, hown, hts⟩ (c_X1_hasIndex l D cI cZ h hq vs L hL (nI i)) (cwV 1 hts gX1_swap_X1_hasIndex rfl rfl rfl (by decide +kernel) ⟨Nat.le_of_ble_eq_true rfl, Nat.le_of_ble_eq_true rfl⟩) hP hK rfl rfl rfl hl rfl (Nat.le_of_ble_eq_true rfl) dX1_swap_2 ⟨Nat.zero_le _, Nat.zero_le _⟩ ?_
  refine lv_if_eq (tgt := 42) hx hb dX1_swap_5 (by decide) (fun c_5 => ?_) (fun c_5 => ?_)
  · skip
    have c_5 := bI_0 c_5
    exact hasB_x hi hL c_5
  · skip
    have c_5 := bI_1 c_5
    refine lv_aload_n hx hb dX1_swap_8 rfl (lv_at hl 0 rfl) ?_
    refine lv_iload_n hx hb dX1_swap_9 rfl (lv_at hl 2 rfl) ?_
    refine rd_call ⟨hx, hb, hml, hown, hts⟩ (c_X1_hasIndex l D cI cZ h hq vs L hL (nI j)) (cwV 1 hts gX1_swap_X1_hasIndex rfl rfl rfl (by decide +kernel) ⟨Nat.le_of_ble_eq_true rfl, Nat.le_of_ble_eq_true rfl⟩) hP hK rfl rfl rfl hl rfl (Nat.le_of_ble_eq_true rfl) dX1_swap_10 ⟨Nat.zero_le _, Nat.zero_le _⟩ ?_
    refine lv_if_eq (tgt := 42) hx hb dX1_swap_13 (by decide) (fun c_13 => ?_) (fun c_13 => ?_)
    · skip
      have c_13 := bI_0 c_13
      exact hasB_x hj hL c_13
    · skip
      have c_13 := bI_1 c_13
      refine lv_aload_n hx hb dX1_swap_16 rfl (lv_at hl 0 rfl) ?_
      refine va_get (D := D) (ci := 1) (v := .ref hq) (C := RX1) (T := TX1) (N := 2) hx hb hts hin1 hown hK hP 0 rfl rfl 0 (by decide) hf9 (fun _ h9 => h9) rfl dX1_swap_17 ?_
      refine lv_iload_n hx hb dX1_swap_20 rfl (lv_at hl 1 rfl) ?_
      refine ar_i (tys := []) hx hb hK hP 1 rfl (k := i) (by omega) (by decide) dX1_swap_21 ?_
      refine lv_istore_n (lv' := [(3, .int (vs i)), (0, .ref h), (1, .int (nI i)), (2, .int (nI j))]) hx hb dX1_swap_22 rfl hl (by decide) rfl (fun ls hl => ?_)
      refine lv_aload_n hx hb dX1_swap_23 rfl (lv_at hl 1 rfl) ?_
      refine va_get (D := D) (ci := 1) (v := .ref hq) (C := RX1) (T := TX1) (N := 2) hx hb hts hin1 hown hK hP 0 rfl rfl 0 (by decide) hf9 (fun _ h9 => h9) rfl dX1_swap_24 ?_
      refine lv_iload_n hx hb dX1_swap_27 rfl (lv_at hl 2 rfl) ?_
      refine lv_aload_n hx hb dX1_swap_28 rfl (lv_at hl 1 rfl) ?_
      refine va_get (D := D) (ci := 1) (v := .ref hq) (C := RX1) (T := TX1) (N := 2) hx hb hts hin1 hown hK hP 0 rfl rfl 0 (by decide) hf9 (fun _ h9 => h9) rfl dX1_swap_29 ?_
      refine lv_iload_n hx hb dX1_swap_32 rfl (lv_at hl 3 rfl) ?_
      refine ar_i (tys := []) hx hb hK hP 1 rfl (k := j) (by omega) (by decide) dX1_swap_33 ?_
      refine ar_is hx hb hK hP hD hS 1 rfl (k := i) (by omega) (by decide) dX1_swap_34 (fun H locs hP hD hS => ?_)
      have hP : va_P D vwCl (wP h hq cI (upd vs i (vs j)) (nI L)) H := hP
      have hD : va_D (adr (wP h hq cI vs (nI L))) (wP h hq cI (upd vs i (vs j)) (nI L)) := vd_same hD rfl
      refine lv_aload_n hx hb dX1_swap_35 rfl (lv_at hl 1 rfl) ?_
      refine va_get (D := D) (ci := 1) (v := .ref hq) (C := RX1) (T := TX1) (N := 2) hx hb hts hin1 hown hK hP 0 rfl rfl 0 (by decide) hf9 (fun _ h9 => h9) rfl dX1_swap_36 ?_
      refine lv_iload_n hx hb dX1_swap_39 rfl (lv_at hl 3 rfl) ?_
      refine lv_iload_n hx hb dX1_swap_40 rfl (lv_at hl 0 rfl) ?_
      refine ar_is hx hb hK hP hD hS 1 rfl (k := j) (by omega) (by decide) dX1_swap_41 (fun H locs hP hD hS => ?_)
      have hP : va_P D vwCl (wP h hq cI (upd (upd vs i (vs j)) j (vs i)) (nI L)) H := hP
      have hD : va_D (adr (wP h hq cI vs (nI L))) (wP h hq cI (upd (upd vs i (vs j)) j (vs i)) (nI L)) := vd_same hD rfl
      exact wr_v hx hb hr hlocks hP hS dX1_swap_42
set_option maxHeartbeats 4000000 in
set_option maxRecDepth 100000 in
theorem c_X1_reverseFrom (l : Launch) (D : va_G) (cI cZ : ClassId) (h : Nat) (hq : Nat) (vs : Nat → Int32) (L : Nat) (hL : L ≤ 64) (S : Nat) (hS0 : S ≤ L) (hL1 : 1 ≤ L) : WrM l yX1_reverseFrom wsX1_reverseFrom 2 44 D cI cZ (wP h hq cI vs (nI L)) (wP h hq cI (rvF vs S L) (nI L)) [.ref h, .int (nI S)] none := by
  refine WrM.of (cc := cX1_reverseFrom) (maxL := 4) (ret := none) (by decide) rfl (Nat.le_of_ble_eq_true rfl) ?_
  intro p e s m below meth c hx hb hr hml hown hts hlocks hP hK hD hS ls hl
  have hown : s.vm.findClass RX1 = some m.cls := hown
  have hl : lv_has ls 4 [(0, .ref h), (1, .int (nI S))] := hl
  have hP : va_P D vwCl (wP h hq cI vs (nI L)) s.heap := hP
  have hf15 := hts (.fieldLink RX1 15 "DynamicForest$Path" "length" "I") (by decide +kernel)
  have hin1 : ∀ w ∈ u_ws RX1 TX1 2, w ∈ wsX1_reverseFrom := by decide +kernel
  refine lv_iload_n hx hb dX1_reverseFrom_0 rfl (lv_at hl 1 rfl) ?_
  refine lv_istore_n (lv' := [(2, .int (nI S)), (0, .ref h), (1, .int (nI S))]) hx hb dX1_reverseFrom_1 rfl hl (by decide) rfl (fun ls hl => ?_)
  refine lv_aload_n hx hb dX1_reverseFrom_2 rfl (lv_at hl 1 rfl) ?_
  refine va_get (D := D) (ci := 1) (v := .int (nI L)) (C := RX1) (T := TX1) (N := 2) hx hb hts hin1 hown hK hP 0 rfl rfl 1 (by decide) hf15 (fun _ h9 => h9) rfl dX1_reverseFrom_3 ?_
  refine lv_iconst (v := 1) hx hb dX1_reverseFrom_6 (by decide) ?_
  refine lv_isub hx hb dX1_reverseFrom_7 ?_
  rw [show nI L - 1 = nI (L - 1) from pk_sub (b := 1) hL1]
  refine lv_istore_n (lv' := [(3, .int (nI (L - 1))), (2, .int (nI S)), (0, .ref h), (1, .int (nI S))]) hx hb dX1_reverseFrom_8 rfl hl (by decide) rfl (fun ls hl => ?_)
  have L9 : ∀ (k_ : Nat) (k : Nat), S + 2 * k ≤ L → L - k < k_ → ∀ (H : Heap) (locs : List Loc), va_P D vwCl (wP h hq cI (rvK vs S L k) (nI L)) H → va_D (adr (wP h hq cI vs (nI L))) (wP h hq cI (rvK vs S L k) (nI L)) → va_S (adr (wP h hq cI vs (nI L))) s.heap H locs → ∀ ls, lv_has ls 4 [(0, .ref h), (1, .int (nI S)), (2, .int (nI (S + k))), (3, .int (nI (L - 1 - k)))] → Ww0 p l e wsX1_reverseFrom 2 44 s m [.ref h, .int (nI S)] below meth c D (wP h hq cI vs (nI L)) (wP h hq cI (rvF vs S L) (nI L)) none H locs (F0 m 9 ls []) := by
    intro k_
    induction k_ with
    | zero => intro k hk hk_; exact absurd hk_ (Nat.not_lt_zero _)
    | succ k_ ih =>
      intro k hk hk_ H locs hP hD hS ls hl
      refine lv_iload_n hx hb dX1_reverseFrom_9 rfl (lv_at hl 3 rfl) ?_
      refine lv_iload_n hx hb dX1_reverseFrom_10 rfl (lv_at hl 2 rfl) ?_
      refine lv_icmp_le (tgt := 29) hx hb dX1_reverseFrom_11 (by decide) (fun c_11 => ?_) (fun c_11 => ?_)
      · skip
        have c_11 := cn_le (a := (L - 1 - k)) (b := (S + k)) (by omega) (by omega) c_11
        rw [rvK_end hk c_11] at hP
        exact wr_v hx hb hr hlocks hP hS dX1_reverseFrom_29
      · skip
        have c_11 := cn_nle (a := (L - 1 - k)) (b := (S + k)) (by omega) (by omega) c_11
        refine lv_aload_n hx hb dX1_reverseFrom_14 rfl (lv_at hl 0 rfl) ?_
        refine lv_iload_n hx hb dX1_reverseFrom_15 rfl (lv_at hl 2 rfl) ?_
        refine lv_iload_n hx hb dX1_reverseFrom_16 rfl (lv_at hl 3 rfl) ?_
        refine wr_call (V1 := wP h hq cI (upd (upd (rvK vs S L k) (S + k) ((rvK vs S L k) (L - 1 - k))) (L - 1 - k) ((rvK vs S L k) (S + k))) (nI L)) ⟨hx, hb, hml, hown, hts⟩ (c_X1_swap l D cI cZ h hq (rvK vs S L k) L hL (S + k) (L - 1 - k) (by omega) (by omega)) (cwV 2 hts gX1_reverseFrom_X1_swap rfl rfl rfl (by decide +kernel) ⟨Nat.le_of_ble_eq_true rfl, Nat.le_of_ble_eq_true rfl⟩) hP hK hD hS [0, 1] [] [0, 1] rfl rfl (by decide) rfl rfl rfl rfl rfl hl rfl (Nat.le_of_ble_eq_true rfl) dX1_reverseFrom_17 ⟨Nat.zero_le _, Nat.zero_le _⟩ (fun H locs hP hD hS => ?_)
        rw [rvK_s c_11] at hP
        have hD : va_D (adr (wP h hq cI vs (nI L))) (wP h hq cI (rvK vs S L (k + 1)) (nI L)) := vd_same hD rfl
        refine lv_iinc (v := nI ((S + k) + 1)) (lv' := [(2, .int (nI ((S + k) + 1))), (0, .ref h), (1, .int (nI S)), (3, .int (nI (L - 1 - k)))]) hx hb dX1_reverseFrom_20 hl (k := 2) rfl (nI_1 (S + k)) (by decide) rfl (fun ls hl => ?_)
        refine lv_iinc (v := nI (L - 1 - (k + 1))) (lv' := [(3, .int (nI (L - 1 - (k + 1)))), (2, .int (nI ((S + k) + 1))), (0, .ref h), (1, .int (nI S))]) hx hb dX1_reverseFrom_23 hl (k := 3) rfl (by rw [show L - 1 - k = (L - 1 - (k + 1)) + 1 by omega]; exact pk_m1 _) (by decide) rfl (fun ls hl => ?_)
        refine lv_goto (tgt := 9) hx hb dX1_reverseFrom_26 (by decide) ?_
        exact ih (k + 1) (by omega) (by omega) _ _ hP hD hS ls (lv_sub hl [2, 3, 1, 0] rfl)
  have hP : va_P D vwCl (wP h hq cI (rvK vs S L 0) (nI L)) s.heap := by rw [rvK_0]; exact hP
  have hD : va_D (adr (wP h hq cI vs (nI L))) (wP h hq cI (rvK vs S L 0) (nI L)) := vd_same hD rfl
  exact L9 (L - 0 + 1) 0 (by omega) (Nat.lt_succ_self _) _ _ hP hD hS ls (lv_sub hl [2, 3, 1, 0] rfl)
set_option maxHeartbeats 4000000 in
set_option maxRecDepth 100000 in
theorem c_X1_appendClimb (l : Launch) (D : va_G) (cI cZ : ClassId) (h : Nat) (hq : Nat) (vs : Nat → Int32) (L : Nat) (hL : L ≤ 64) (f : Nat) (fa : Nat) (fb : Nat) (fc : Nat) (n : Nat) (G : Nat → Nat) (va : Nat → Int32) (mk : Nat → Bool) (F : fo_ok n G) (b0 : Nat) (k : Nat) (hb0 : b0 < n) (hk : k ≤ fo_d G b0) (hLk : L + k ≤ 64) (t0 : Nat) (ht0 : t0 = fo_up G k b0) : WrM l yX1_appendClimb wsX1_appendClimb 2 42 D cI cZ (wP h hq cI vs (nI L) ++ wF f fa fb fc cI cZ n (fo_cp G) va mk) (wP h hq cI (apF G b0 vs L k) (nI (L + k)) ++ wF f fa fb fc cI cZ n (fo_cp G) va mk) [.ref h, .ref f, .int (nI b0), .int (nI t0)] none := by
  refine WrM.of (cc := cX1_appendClimb) (maxL := 6) (ret := none) (by decide) rfl (Nat.le_of_ble_eq_true rfl) ?_
  intro p e s m below meth c hx hb hr hml hown hts hlocks hP hK hD hS ls hl
  have hown : s.vm.findClass RX1 = some m.cls := hown
  have hl : lv_has ls 6 [(0, .ref h), (1, .ref f), (2, .int (nI b0)), (3, .int (nI t0))] := hl
  have hP : va_P D vwCl (wP h hq cI vs (nI L) ++ wF f fa fb fc cI cZ n (fo_cp G) va mk) s.heap := hP
  have hn : n ≤ 64 := F.2.1
  have hd63 := fo_d_le F b0
  have hlt : t0 < n := by rw [ht0]; exact fo_lt F hb0 k
  refine lv_iload_n hx hb dX1_appendClimb_0 rfl (lv_at hl 2 rfl) ?_
  refine lv_istore (lv' := [(4, .int (nI b0)), (0, .ref h), (1, .ref f), (2, .int (nI b0)), (3, .int (nI t0))]) hx hb dX1_appendClimb_1 hl (by decide) rfl (fun ls hl => ?_)
  refine lv_iconst (v := nI 0) hx hb dX1_appendClimb_3 (by decide) ?_
  refine lv_istore (lv' := [(5, .int (nI 0)), (4, .int (nI b0)), (0, .ref h), (1, .ref f), (2, .int (nI b0)), (3, .int (nI t0))]) hx hb dX1_appendClimb_4 hl (by decide) rfl (fun ls hl => ?_)
  have L6 : ∀ (k_ : Nat) (i : Nat), i ≤ k → 64 - i < k_ → ∀ (H : Heap) (locs : List Loc), va_P D vwCl (wP h hq cI (apF G b0 vs L i) (nI (L + i)) ++ wF f fa fb fc cI cZ n (fo_cp G) va mk) H → va_D (adr (wP h hq cI vs (nI L) ++ wF f fa fb fc cI cZ n (fo_cp G) va mk)) (wP h hq cI (apF G b0 vs L i) (nI (L + i)) ++ wF f fa fb fc cI cZ n (fo_cp G) va mk) → va_S (adr (wP h hq cI vs (nI L) ++ wF f fa fb fc cI cZ n (fo_cp G) va mk)) s.heap H locs → ∀ ls, lv_has ls 6 [(0, .ref h), (1, .ref f), (2, .int (nI b0)), (3, .int (nI t0)), (4, .int (nI (fo_up G i b0))), (5, .int (nI i))] → Ww0 p l e wsX1_appendClimb 2 42 s m [.ref h, .ref f, .int (nI b0), .int (nI t0)] below meth c D (wP h hq cI vs (nI L) ++ wF f fa fb fc cI cZ n (fo_cp G) va mk) (wP h hq cI (apF G b0 vs L k) (nI (L + k)) ++ wF f fa fb fc cI cZ n (fo_cp G) va mk) none H locs (F0 m 6 ls []) := by
    intro k_
    induction k_ with
    | zero => intro i hi hk_; exact absurd hk_ (Nat.not_lt_zero _)
    | succ k_ ih =>
      intro i hi hk_ H locs hP hD hS ls hl
      have hli := fo_lt F hb0 i
      refine lv_iload hx hb dX1_appendClimb_6 (lv_at hl 5 rfl) ?_
      refine lv_bipush (v := 64) hx hb dX1_appendClimb_8 (by decide) ?_
      refine lv_icmp_ge (tgt := 39) hx hb dX1_appendClimb_10 (by decide) (fun c_10 => ?_) (fun c_10 => ?_)
      · skip
        have c_10 := cn_le (a := 64) (b := i) (by omega) (by omega) c_10
        exact absurd hd63 (by omega)
      · skip
        have c_10 := cn_nle (a := 64) (b := i) (by omega) (by omega) c_10
        refine lv_iload hx hb dX1_appendClimb_13 (lv_at hl 4 rfl) ?_
        refine lv_iload_n hx hb dX1_appendClimb_15 rfl (lv_at hl 3 rfl) ?_
        refine lv_icmp_eq (tgt := 39) hx hb dX1_appendClimb_16 (by decide) (fun c_16 => ?_) (fun c_16 => ?_)
        · skip
          have c_16 := cn_eq (a := (fo_up G i b0)) (b := t0) (by omega) (by omega) c_16
          have e16 : i = k := Classical.byContradiction fun q => fo_up_ne F (by omega) hk q (c_16.trans ht0)
          rw [e16] at hP
          exact wr_v hx hb hr hlocks hP hS dX1_appendClimb_39
        · skip
          have c_16 := cn_ne (a := (fo_up G i b0)) (b := t0) (by omega) (by omega) c_16
          have hik : i < k := Nat.lt_of_le_of_ne hi (fun q => c_16 (by rw [q, ht0]))
          refine lv_aload_n hx hb dX1_appendClimb_19 rfl (lv_at hl 0 rfl) ?_
          refine lv_iload hx hb dX1_appendClimb_20 (lv_at hl 4 rfl) ?_
          refine wr_call (V1 := wP h hq cI (upd (apF G b0 vs L i) (L + i) (nI (fo_up G i b0))) (nI ((L + i) + 1)) ++ wF f fa fb fc cI cZ n (fo_cp G) va mk) ⟨hx, hb, hml, hown, hts⟩ (c_X1_append l D cI cZ h hq (apF G b0 vs L i) (L + i) (by omega) (nI (fo_up G i b0)) (by omega)) (cwV 1 hts gX1_appendClimb_X1_append rfl rfl rfl (by decide +kernel) ⟨Nat.le_of_ble_eq_true rfl, Nat.le_of_ble_eq_true rfl⟩) hP hK hD hS [0, 1] [2, 3, 4, 5] [4, 5, 0, 1, 2, 3] rfl rfl (by decide) rfl rfl rfl rfl rfl hl rfl (Nat.le_of_ble_eq_true rfl) dX1_appendClimb_22 ⟨Nat.zero_le _, Nat.zero_le _⟩ (fun H locs hP hD hS => ?_)
          rw [apF_s] at hP
          have hD : va_D (adr (wP h hq cI vs (nI L) ++ wF f fa fb fc cI cZ n (fo_cp G) va mk)) (wP h hq cI (apF G b0 vs L (i + 1)) (nI (L + (i + 1))) ++ wF f fa fb fc cI cZ n (fo_cp G) va mk) := vd_same hD rfl
          refine lv_aload_n hx hb dX1_appendClimb_25 rfl (lv_at hl 1 rfl) ?_
          refine lv_iload hx hb dX1_appendClimb_26 (lv_at hl 4 rfl) ?_
          refine rd_call ⟨hx, hb, hml, hown, hts⟩ (c_X0_parentOf l D cI cZ f fa fb fc n (fo_cp G) va mk (fo_up G i b0) hli hn) (cwV 1 hts gX1_appendClimb_X0_parentOf rfl rfl rfl (by decide +kernel) ⟨Nat.le_of_ble_eq_true rfl, Nat.le_of_ble_eq_true rfl⟩) (hP.sub (ws' := wF f fa fb fc cI cZ n (fo_cp G) va mk) [2, 3, 4, 5] rfl) hK rfl rfl rfl hl rfl (Nat.le_of_ble_eq_true rfl) dX1_appendClimb_28 ⟨Nat.zero_le _, Nat.zero_le _⟩ ?_
          rw [fo_cp_n (fo_nr F (by omega)), ← fo_up_s G i b0]
          refine lv_istore (lv' := [(4, .int (nI (fo_up G (i + 1) b0))), (0, .ref h), (1, .ref f), (2, .int (nI b0)), (3, .int (nI t0)), (5, .int (nI i))]) hx hb dX1_appendClimb_31 hl (by decide) rfl (fun ls hl => ?_)
          refine lv_iinc (v := nI (i + 1)) (lv' := [(5, .int (nI (i + 1))), (4, .int (nI (fo_up G (i + 1) b0))), (0, .ref h), (1, .ref f), (2, .int (nI b0)), (3, .int (nI t0))]) hx hb dX1_appendClimb_33 hl (k := 5) rfl (nI_1 i) (by decide) rfl (fun ls hl => ?_)
          refine lv_goto (tgt := 6) hx hb dX1_appendClimb_36 (by decide) ?_
          exact ih (i + 1) (by omega) (by omega) _ _ hP hD hS ls (lv_sub hl [2, 3, 4, 5, 1, 0] rfl)
  have hP : va_P D vwCl (wP h hq cI (apF G b0 vs L 0) (nI (L + 0)) ++ wF f fa fb fc cI cZ n (fo_cp G) va mk) s.heap := by rw [apF_0]; exact hP
  have hD : va_D (adr (wP h hq cI vs (nI L) ++ wF f fa fb fc cI cZ n (fo_cp G) va mk)) (wP h hq cI (apF G b0 vs L 0) (nI (L + 0)) ++ wF f fa fb fc cI cZ n (fo_cp G) va mk) := vd_same hD rfl
  exact L6 (64 - 0 + 1) 0 (Nat.zero_le _) (Nat.lt_succ_self _) _ _ hP hD hS ls (lv_sub hl [2, 3, 4, 5, 1, 0] rfl)
set_option maxHeartbeats 4000000 in
set_option maxRecDepth 100000 in
theorem c_X1_trace (l : Launch) (D : va_G) (cI cZ : ClassId) (h : Nat) (hq : Nat) (vs : Nat → Int32) (L : Nat) (hL : L ≤ 64) (f : Nat) (fa : Nat) (fb : Nat) (fc : Nat) (n : Nat) (G : Nat → Nat) (va : Nat → Int32) (mk : Nat → Bool) (F : fo_ok n G) (u : Nat) (v : Nat) (hu : u < n) (hv : v < n) (hro : fo_r G u = fo_r G v) : WrM l yX1_trace wsX1_trace 4 92 D cI cZ (wP h hq cI vs (nI L) ++ wF f fa fb fc cI cZ n (fo_cp G) va mk) (wP h hq cI (fillI (fo_pL G u v) (fun t => nI (fo_pt G u v t)) vs) (nI (fo_pL G u v)) ++ wF f fa fb fc cI cZ n (fo_cp G) va mk) [.ref h, .ref f, .int (nI u), .int (nI v)] none := by
  refine WrM.of (cc := cX1_trace) (maxL := 6) (ret := none) (by decide) rfl (Nat.le_of_ble_eq_true rfl) ?_
  intro p e s m below meth c hx hb hr hml hown hts hlocks hP hK hD hS ls hl
  have hown : s.vm.findClass RX1 = some m.cls := hown
  have hl : lv_has ls 6 [(0, .ref h), (1, .ref f), (2, .int (nI u)), (3, .int (nI v))] := hl
  have hP : va_P D vwCl (wP h hq cI vs (nI L) ++ wF f fa fb fc cI cZ n (fo_cp G) va mk) s.heap := hP
  have hf15 := hts (.fieldLink RX1 15 "DynamicForest$Path" "length" "I") (by decide +kernel)
  have hin1 : ∀ w ∈ u_ws RX1 TX1 2, w ∈ wsX1_trace := by decide +kernel
  have hn : n ≤ 64 := F.2.1
  have hLL := fo_pL_le F hro hu hv
  have hL0 : fo_pL G u v = fo_pi G u v + (fo_d G v - fo_d G (fo_m G u v)) + 1 := rfl
  have hmlt := fo_m_lt F hro hu
  obtain ⟨m1, m2, m3, m4, m5⟩ := fo_m_spec F hro
  have m3 : fo_up G (fo_pi G u v) u = fo_m G u v := m3
  have hpi : fo_pi G u v ≤ fo_d G u := Nat.sub_le _ _
  refine lv_aload_n hx hb dX1_trace_0 rfl (lv_at hl 1 rfl) ?_
  refine lv_iload_n hx hb dX1_trace_1 rfl (lv_at hl 2 rfl) ?_
  refine lv_iload_n hx hb dX1_trace_2 rfl (lv_at hl 3 rfl) ?_
  refine rd_call ⟨hx, hb, hml, hown, hts⟩ (c_X0_meetingPoint l D cI cZ f fa fb fc n G va mk F u v hu hv hro) (cwV 2 hts gX1_trace_X0_meetingPoint rfl rfl rfl (by decide +kernel) ⟨Nat.le_of_ble_eq_true rfl, Nat.le_of_ble_eq_true rfl⟩) (hP.sub (ws' := wF f fa fb fc cI cZ n (fo_cp G) va mk) [2, 3, 4, 5] rfl) hK rfl rfl rfl hl rfl (Nat.le_of_ble_eq_true rfl) dX1_trace_3 ⟨Nat.zero_le _, Nat.zero_le _⟩ ?_
  refine lv_istore (lv' := [(4, .int (nI (fo_m G u v))), (0, .ref h), (1, .ref f), (2, .int (nI u)), (3, .int (nI v))]) hx hb dX1_trace_6 hl (by decide) rfl (fun ls hl => ?_)
  refine lv_aload_n hx hb dX1_trace_8 rfl (lv_at hl 1 rfl) ?_
  refine lv_iconst (v := nI 0) hx hb dX1_trace_9 (by decide) ?_
  refine va_put (D := D) (ci := 1) (v := .int (nI 0)) (ty := .int) (C := RX1) (T := TX1) (N := 2) hx hb hts hin1 tyX1 tyX1_ok nmX1 hown hK hP hD hS 0 rfl rfl 1 (by decide) hf15 (fun _ h9 => h9) rfl (by decide +kernel) rfl rfl (Nat.le_of_ble_eq_true rfl) dX1_trace_10 (fun H locs hP hD hS => ?_)
  have hP : va_P D vwCl (wP h hq cI vs (nI 0) ++ wF f fa fb fc cI cZ n (fo_cp G) va mk) H := hP
  have hD : va_D (adr (wP h hq cI vs (nI L) ++ wF f fa fb fc cI cZ n (fo_cp G) va mk)) (wP h hq cI vs (nI 0) ++ wF f fa fb fc cI cZ n (fo_cp G) va mk) := vd_same hD rfl
  refine lv_aload_n hx hb dX1_trace_13 rfl (lv_at hl 1 rfl) ?_
  refine lv_aload_n hx hb dX1_trace_14 rfl (lv_at hl 2 rfl) ?_
  refine lv_iload_n hx hb dX1_trace_15 rfl (lv_at hl 3 rfl) ?_
  refine lv_iload hx hb dX1_trace_16 (lv_at hl 0 rfl) ?_
  refine wr_call (V1 := wP h hq cI (apF G u vs 0 (fo_pi G u v)) (nI (0 + (fo_pi G u v))) ++ wF f fa fb fc cI cZ n (fo_cp G) va mk) ⟨hx, hb, hml, hown, hts⟩ (c_X1_appendClimb l D cI cZ h hq vs 0 (Nat.zero_le _) f fa fb fc n G va mk F u (fo_pi G u v) hu hpi (by omega) (fo_m G u v) (m3.symm)) (cwV 3 hts gX1_trace_X1_appendClimb rfl rfl rfl (by decide +kernel) ⟨Nat.le_of_ble_eq_true rfl, Nat.le_of_ble_eq_true rfl⟩) hP hK hD hS [0, 1, 2, 3, 4, 5] [] [0, 1, 2, 3, 4, 5] rfl rfl (by decide) rfl rfl rfl rfl rfl hl rfl (Nat.le_of_ble_eq_true rfl) dX1_trace_18 ⟨Nat.zero_le _, Nat.zero_le _⟩ (fun H locs hP hD hS => ?_)
  refine lv_aload_n hx hb dX1_trace_21 rfl (lv_at hl 1 rfl) ?_
  refine lv_iload hx hb dX1_trace_22 (lv_at hl 0 rfl) ?_
  refine wr_call (V1 := wP h hq cI (upd (apF G u vs 0 (fo_pi G u v)) (0 + fo_pi G u v) (nI (fo_m G u v))) (nI ((0 + fo_pi G u v) + 1)) ++ wF f fa fb fc cI cZ n (fo_cp G) va mk) ⟨hx, hb, hml, hown, hts⟩ (c_X1_append l D cI cZ h hq (apF G u vs 0 (fo_pi G u v)) (0 + fo_pi G u v) (by omega) (nI (fo_m G u v)) (by omega)) (cwV 1 hts gX1_trace_X1_append rfl rfl rfl (by decide +kernel) ⟨Nat.le_of_ble_eq_true rfl, Nat.le_of_ble_eq_true rfl⟩) hP hK hD hS [0, 1] [2, 3, 4, 5] [4, 5, 0, 1, 2, 3] rfl rfl (by decide) rfl rfl rfl rfl rfl hl rfl (Nat.le_of_ble_eq_true rfl) dX1_trace_24 ⟨Nat.zero_le _, Nat.zero_le _⟩ (fun H locs hP hD hS => ?_)
  refine lv_aload_n hx hb dX1_trace_27 rfl (lv_at hl 1 rfl) ?_
  refine va_get (D := D) (ci := 1) (v := .int (nI ((0 + fo_pi G u v) + 1))) (C := RX1) (T := TX1) (N := 2) hx hb hts hin1 hown hK hP 0 rfl rfl 1 (by decide) hf15 (fun _ h9 => h9) rfl dX1_trace_28 ?_
  refine lv_istore (lv' := [(5, .int (nI ((0 + fo_pi G u v) + 1))), (4, .int (nI (fo_m G u v))), (0, .ref h), (1, .ref f), (2, .int (nI u)), (3, .int (nI v))]) hx hb dX1_trace_31 hl (by decide) rfl (fun ls hl => ?_)
  refine lv_aload_n hx hb dX1_trace_33 rfl (lv_at hl 2 rfl) ?_
  refine lv_aload_n hx hb dX1_trace_34 rfl (lv_at hl 3 rfl) ?_
  refine lv_iload_n hx hb dX1_trace_35 rfl (lv_at hl 5 rfl) ?_
  refine lv_iload hx hb dX1_trace_36 (lv_at hl 1 rfl) ?_
  refine wr_call (V1 := wP h hq cI (apF G v (upd (apF G u vs 0 (fo_pi G u v)) (0 + fo_pi G u v) (nI (fo_m G u v))) (0 + fo_pi G u v + 1) (fo_d G v - fo_d G (fo_m G u v))) (nI ((0 + fo_pi G u v + 1) + (fo_d G v - fo_d G (fo_m G u v)))) ++ wF f fa fb fc cI cZ n (fo_cp G) va mk) ⟨hx, hb, hml, hown, hts⟩ (c_X1_appendClimb l D cI cZ h hq (upd (apF G u vs 0 (fo_pi G u v)) (0 + fo_pi G u v) (nI (fo_m G u v))) (0 + fo_pi G u v + 1) (by omega) f fa fb fc n G va mk F v (fo_d G v - fo_d G (fo_m G u v)) hv (Nat.sub_le _ _) (by omega) (fo_m G u v) (m4.symm)) (cwV 3 hts gX1_trace_X1_appendClimb rfl rfl rfl (by decide +kernel) ⟨Nat.le_of_ble_eq_true rfl, Nat.le_of_ble_eq_true rfl⟩) hP hK hD hS [0, 1, 2, 3, 4, 5] [] [0, 1, 2, 3, 4, 5] rfl rfl (by decide) rfl rfl rfl rfl rfl hl rfl (Nat.le_of_ble_eq_true rfl) dX1_trace_38 ⟨Nat.zero_le _, Nat.zero_le _⟩ (fun H locs hP hD hS => ?_)
  refine lv_aload_n hx hb dX1_trace_41 rfl (lv_at hl 2 rfl) ?_
  refine lv_iload hx hb dX1_trace_42 (lv_at hl 0 rfl) ?_
  refine wr_call (V1 := wP h hq cI (rvF (apF G v (upd (apF G u vs 0 (fo_pi G u v)) (0 + fo_pi G u v) (nI (fo_m G u v))) (0 + fo_pi G u v + 1) (fo_d G v - fo_d G (fo_m G u v))) (0 + fo_pi G u v + 1) (0 + fo_pi G u v + 1 + (fo_d G v - fo_d G (fo_m G u v)))) (nI (0 + fo_pi G u v + 1 + (fo_d G v - fo_d G (fo_m G u v)))) ++ wF f fa fb fc cI cZ n (fo_cp G) va mk) ⟨hx, hb, hml, hown, hts⟩ (c_X1_reverseFrom l D cI cZ h hq (apF G v (upd (apF G u vs 0 (fo_pi G u v)) (0 + fo_pi G u v) (nI (fo_m G u v))) (0 + fo_pi G u v + 1) (fo_d G v - fo_d G (fo_m G u v))) (0 + fo_pi G u v + 1 + (fo_d G v - fo_d G (fo_m G u v))) (by omega) (0 + fo_pi G u v + 1) (by omega) (by omega)) (cwV 1 hts gX1_trace_X1_reverseFrom rfl rfl rfl (by decide +kernel) ⟨Nat.le_of_ble_eq_true rfl, Nat.le_of_ble_eq_true rfl⟩) hP hK hD hS [0, 1] [2, 3, 4, 5] [4, 5, 0, 1, 2, 3] rfl rfl (by decide) rfl rfl rfl rfl rfl hl rfl (Nat.le_of_ble_eq_true rfl) dX1_trace_44 ⟨Nat.zero_le _, Nat.zero_le _⟩ (fun H locs hP hD hS => ?_)
  rw [trace_eq F hro, show 0 + fo_pi G u v + 1 + (fo_d G v - fo_d G (fo_m G u v)) = fo_pL G u v by omega] at hP
  exact wr_v hx hb hr hlocks hP hS dX1_trace_47
end
section
theorem zz_last : True := trivial
end
