section
-- ===== PART A: goes FIRST, ahead of the names: the tables' words, and 'selects' of the private methods out of them =====
/-- a private method of a class that the tables say can be made, by its rows of tables_1 -/
def lw_okq (q : MethodName × Nat) : Prop := (q.1.cls ≠ "java/lang/invoke/MethodHandle" ∧ q.1.cls ≠ "java/lang/invoke/VarHandle") ∧ Cond.instantiable q.1.cls q.2 ∈ tables_1 ∧ Cond.privateMethod q.1 ∈ tables_1 ∧ Cond.instanceMethod q.1 ∈ tables_1
theorem lw_p0 : lw_okq (⟨"LeafSigner", "isRootMade", "()Z"⟩, 9) := ⟨⟨by decide +kernel, by decide +kernel⟩, List.mem_of_getElem? (i := 13) (by decide +kernel), List.mem_of_getElem? (i := 322) (by decide +kernel), List.mem_of_getElem? (i := 323) (by decide +kernel)⟩
theorem lw_p1 : lw_okq (⟨"LeafSigner", "readDigits", "(ILLeafSigner$Pairs;I)V"⟩, 9) := ⟨⟨by decide +kernel, by decide +kernel⟩, List.mem_of_getElem? (i := 13) (by decide +kernel), List.mem_of_getElem? (i := 326) (by decide +kernel), List.mem_of_getElem? (i := 327) (by decide +kernel)⟩
theorem lw_p2 : lw_okq (⟨"LeafSigner", "climbToRoot", "()V"⟩, 9) := ⟨⟨by decide +kernel, by decide +kernel⟩, List.mem_of_getElem? (i := 13) (by decide +kernel), List.mem_of_getElem? (i := 398) (by decide +kernel), List.mem_of_getElem? (i := 399) (by decide +kernel)⟩
theorem lw_p3 : lw_okq (⟨"LeafSignerModel", "leaves", "()I"⟩, 21) := ⟨⟨by decide +kernel, by decide +kernel⟩, List.mem_of_getElem? (i := 420) (by decide +kernel), List.mem_of_getElem? (i := 498) (by decide +kernel), List.mem_of_getElem? (i := 499) (by decide +kernel)⟩
theorem lw_p4 : lw_okq (⟨"LeafSignerModel", "place", "(III)V"⟩, 21) := ⟨⟨by decide +kernel, by decide +kernel⟩, List.mem_of_getElem? (i := 420) (by decide +kernel), List.mem_of_getElem? (i := 502) (by decide +kernel), List.mem_of_getElem? (i := 503) (by decide +kernel)⟩
theorem lw_p5 : lw_okq (⟨"LeafSignerModel", "take", "(JI)V"⟩, 21) := ⟨⟨by decide +kernel, by decide +kernel⟩, List.mem_of_getElem? (i := 420) (by decide +kernel), List.mem_of_getElem? (i := 506) (by decide +kernel), List.mem_of_getElem? (i := 507) (by decide +kernel)⟩
theorem lw_p6 : lw_okq (⟨"LeafSignerModel", "put", "(J)V"⟩, 21) := ⟨⟨by decide +kernel, by decide +kernel⟩, List.mem_of_getElem? (i := 420) (by decide +kernel), List.mem_of_getElem? (i := 510) (by decide +kernel), List.mem_of_getElem? (i := 511) (by decide +kernel)⟩
theorem lw_p7 : lw_okq (⟨"LeafSignerModel", "carry", "(IIII)V"⟩, 21) := ⟨⟨by decide +kernel, by decide +kernel⟩, List.mem_of_getElem? (i := 420) (by decide +kernel), List.mem_of_getElem? (i := 519) (by decide +kernel), List.mem_of_getElem? (i := 520) (by decide +kernel)⟩
theorem lw_p8 : lw_okq (⟨"LeafSignerModel", "gather", "(I)V"⟩, 21) := ⟨⟨by decide +kernel, by decide +kernel⟩, List.mem_of_getElem? (i := 420) (by decide +kernel), List.mem_of_getElem? (i := 524) (by decide +kernel), List.mem_of_getElem? (i := 525) (by decide +kernel)⟩
theorem lw_p9 : lw_okq (⟨"LeafSignerModel", "isMade", "(II)Z"⟩, 21) := ⟨⟨by decide +kernel, by decide +kernel⟩, List.mem_of_getElem? (i := 420) (by decide +kernel), List.mem_of_getElem? (i := 529) (by decide +kernel), List.mem_of_getElem? (i := 530) (by decide +kernel)⟩
theorem lw_p10 : lw_okq (⟨"LeafSignerModel", "join", "(IIJJJJ)V"⟩, 21) := ⟨⟨by decide +kernel, by decide +kernel⟩, List.mem_of_getElem? (i := 420) (by decide +kernel), List.mem_of_getElem? (i := 536) (by decide +kernel), List.mem_of_getElem? (i := 537) (by decide +kernel)⟩
theorem lw_p11 : lw_okq (⟨"LeafSignerModel", "hasRoot", "()Z"⟩, 21) := ⟨⟨by decide +kernel, by decide +kernel⟩, List.mem_of_getElem? (i := 420) (by decide +kernel), List.mem_of_getElem? (i := 557) (by decide +kernel), List.mem_of_getElem? (i := 558) (by decide +kernel)⟩
theorem lw_p12 : lw_okq (⟨"LeafSignerModel", "findDigits", "(IJJ)V"⟩, 21) := ⟨⟨by decide +kernel, by decide +kernel⟩, List.mem_of_getElem? (i := 420) (by decide +kernel), List.mem_of_getElem? (i := 561) (by decide +kernel), List.mem_of_getElem? (i := 562) (by decide +kernel)⟩
theorem lw_p13 : lw_okq (⟨"LeafSignerModel", "isPart", "(II)Z"⟩, 21) := ⟨⟨by decide +kernel, by decide +kernel⟩, List.mem_of_getElem? (i := 420) (by decide +kernel), List.mem_of_getElem? (i := 578) (by decide +kernel), List.mem_of_getElem? (i := 579) (by decide +kernel)⟩
def lw_privs_1 : List (MethodName × Nat) := [(⟨"LeafSigner", "isRootMade", "()Z"⟩, 9), (⟨"LeafSigner", "readDigits", "(ILLeafSigner$Pairs;I)V"⟩, 9), (⟨"LeafSigner", "climbToRoot", "()V"⟩, 9), (⟨"LeafSignerModel", "leaves", "()I"⟩, 21), (⟨"LeafSignerModel", "place", "(III)V"⟩, 21), (⟨"LeafSignerModel", "take", "(JI)V"⟩, 21), (⟨"LeafSignerModel", "put", "(J)V"⟩, 21), (⟨"LeafSignerModel", "carry", "(IIII)V"⟩, 21), (⟨"LeafSignerModel", "gather", "(I)V"⟩, 21), (⟨"LeafSignerModel", "isMade", "(II)Z"⟩, 21), (⟨"LeafSignerModel", "join", "(IIJJJJ)V"⟩, 21), (⟨"LeafSignerModel", "hasRoot", "()Z"⟩, 21), (⟨"LeafSignerModel", "findDigits", "(IJJ)V"⟩, 21), (⟨"LeafSignerModel", "isPart", "(II)Z"⟩, 21)]
theorem lw_r1 : ∀ q ∈ lw_privs_1, lw_okq q := List.forall_mem_cons.mpr ⟨lw_p0, List.forall_mem_cons.mpr ⟨lw_p1, List.forall_mem_cons.mpr ⟨lw_p2, List.forall_mem_cons.mpr ⟨lw_p3, List.forall_mem_cons.mpr ⟨lw_p4, List.forall_mem_cons.mpr ⟨lw_p5, List.forall_mem_cons.mpr ⟨lw_p6, List.forall_mem_cons.mpr ⟨lw_p7, List.forall_mem_cons.mpr ⟨lw_p8, List.forall_mem_cons.mpr ⟨lw_p9, List.forall_mem_cons.mpr ⟨lw_p10, List.forall_mem_cons.mpr ⟨lw_p11, List.forall_mem_cons.mpr ⟨lw_p12, List.forall_mem_cons.mpr ⟨lw_p13, fun _ h => absurd h List.not_mem_nil⟩⟩⟩⟩⟩⟩⟩⟩⟩⟩⟩⟩⟩⟩
def lw_privs : List (MethodName × Nat) := lw_privs_1
def lw_tbl : List Cond := k2_sels lw_privs ++ tables_1
theorem lw_privs_ok : ∀ q ∈ lw_privs, lw_okq q := lw_r1
-- ===== end of PART A; then your names; then what follows =====
end
section
/-! ===== BEGIN words of one list among another's, by their places ===== -/
theorem goodIn_r {big : List Cond} (ws : List Cond) (ps : List Nat) (hp : ws = ps.filterMap (fun i => big[i]?)) (h : ws.all goodWord = true) : GoodIn big ws := by
  intro w hw
  have h1 := List.all_eq_true.mp h w hw
  rw [hp] at hw
  obtain ⟨i, -, hi⟩ := List.mem_filterMap.mp hw
  have hm : w ∈ big := by first | exact List.mem_of_getElem? hi | exact List.getElem?_mem hi
  exact ⟨hm, good_of_word h1⟩
theorem goodIn_app {big a b : List Cond} (ha : GoodIn big a) (hb : GoodIn big b) : GoodIn big (a ++ b) := fun w h => (List.mem_append.mp h).elim (ha w) (hb w)
theorem goodIn_ca {big a b : List Cond} {c : Cond} (ha : GoodIn big (c :: a)) (hb : GoodIn big b) : GoodIn big (c :: (a ++ b)) := fun w h => (List.mem_cons.mp h).elim (fun e => ha w (List.mem_cons.mpr (Or.inl e))) (fun h => (List.mem_append.mp h).elim (fun h => ha w (List.mem_cons.mpr (Or.inr h))) (hb w))
theorem goodIn_sub {big ws : List Cond} (hm : ∀ w ∈ ws, w ∈ big) (h : ws.all goodWord = true) : GoodIn big ws := fun w hw => ⟨hm w hw, good_of_word (List.all_eq_true.mp h w hw)⟩
/-! ===== END ===== -/

/-! ===== BEGIN printed: names, fields, word lists, decode rows ===== -/
def RX0 : String := "LeafSigner$Chains"
def TX0 : u_T := fun k => match k with
  | 0 => ("LeafSigner$Chains", "ends", "LLeafSigner$Pairs;", true)
  | _ => ("LeafSigner$Chains", "hasher", "LLeafSigner$Hasher;", true)
def tyX0 : Nat → FieldType := fun k => match k with
  | 0 => .object "LeafSigner$Pairs"
  | _ => .object "LeafSigner$Hasher"
abbrev wsX00 : List Cond := u_ws RX0 TX0 2
theorem nmX0 : ∀ a, a < 2 → ∀ b, b < 2 → a ≠ b → (TX0 a).2.1 ≠ (TX0 b).2.1 := by decide +kernel
theorem tyX0_ok : ∀ k, k < 2 → parseFieldDescriptor (TX0 k).2.2.1 = some (tyX0 k) := by decide +kernel
abbrev cX0_init : ByteArray := prog_2_method_1_code
def yX0_init : MethodName := ⟨RX0, "<init>", "()V"⟩
abbrev cX0_makeStart : ByteArray := prog_2_method_2_code
def yX0_makeStart : MethodName := ⟨RX0, "makeStart", "(LLeafSigner$Keys;IILLeafSigner$Pairs;)V"⟩
abbrev cX0_carry : ByteArray := prog_2_method_3_code
def yX0_carry : MethodName := ⟨RX0, "carry", "(JIIIILLeafSigner$Pairs;)V"⟩
abbrev cX0_makeEnds : ByteArray := prog_2_method_4_code
def yX0_makeEnds : MethodName := ⟨RX0, "makeEnds", "(LLeafSigner$Keys;I)V"⟩
abbrev cX0_carryAllToEnds : ByteArray := prog_2_method_5_code
def yX0_carryAllToEnds : MethodName := ⟨RX0, "carryAllToEnds", "(JLLeafSigner$Signature;LLeafSigner$Digits;)V"⟩
def RX1 : String := "LeafSigner$Digits"
def TX1 : u_T := fun k => match k with
  | _ => ("LeafSigner$Digits", "values", "[I", true)
def tyX1 : Nat → FieldType := fun k => match k with
  | _ => .array .int
abbrev wsX10 : List Cond := u_ws RX1 TX1 1
theorem nmX1 : ∀ a, a < 1 → ∀ b, b < 1 → a ≠ b → (TX1 a).2.1 ≠ (TX1 b).2.1 := by decide +kernel
theorem tyX1_ok : ∀ k, k < 1 → parseFieldDescriptor (TX1 k).2.2.1 = some (tyX1 k) := by decide +kernel
abbrev cX1_init : ByteArray := prog_3_method_1_code
def yX1_init : MethodName := ⟨RX1, "<init>", "()V"⟩
abbrev cX1_read : ByteArray := prog_3_method_2_code
def yX1_read : MethodName := ⟨RX1, "read", "(JJ)V"⟩
abbrev cX1_fourBits : ByteArray := prog_3_method_3_code
def yX1_fourBits : MethodName := ⟨RX1, "fourBits", "(JI)I"⟩
def RX2 : String := "LeafSigner$Hasher"
def TX2 : u_T := fun k => match k with
  | 0 => ("LeafSigner$Hasher", "a", "J", false)
  | _ => ("LeafSigner$Hasher", "b", "J", false)
def tyX2 : Nat → FieldType := fun k => match k with
  | 0 => .long
  | _ => .long
abbrev wsX20 : List Cond := u_ws RX2 TX2 2
theorem nmX2 : ∀ a, a < 2 → ∀ b, b < 2 → a ≠ b → (TX2 a).2.1 ≠ (TX2 b).2.1 := by decide +kernel
theorem tyX2_ok : ∀ k, k < 2 → parseFieldDescriptor (TX2 k).2.2.1 = some (tyX2 k) := by decide +kernel
abbrev cX2_init : ByteArray := prog_4_method_1_code
def yX2_init : MethodName := ⟨RX2, "<init>", "()V"⟩
abbrev cX2_start : ByteArray := prog_4_method_2_code
def yX2_start : MethodName := ⟨RX2, "start", "(II)V"⟩
abbrev cX2_add : ByteArray := prog_4_method_3_code
def yX2_add : MethodName := ⟨RX2, "add", "(J)V"⟩
abbrev cX2_addPair : ByteArray := prog_4_method_4_code
def yX2_addPair : MethodName := ⟨RX2, "addPair", "(LLeafSigner$Pairs;I)V"⟩
abbrev cX2_addMessage : ByteArray := prog_4_method_5_code
def yX2_addMessage : MethodName := ⟨RX2, "addMessage", "(LLeafSigner$Message;)V"⟩
abbrev cX2_hashLeaf : ByteArray := prog_4_method_6_code
def yX2_hashLeaf : MethodName := ⟨RX2, "hashLeaf", "(JILLeafSigner$Pairs;)V"⟩
abbrev cX2_startNode : ByteArray := prog_4_method_7_code
def yX2_startNode : MethodName := ⟨RX2, "startNode", "(JII)V"⟩
abbrev cX2_giveTo : ByteArray := prog_4_method_8_code
def yX2_giveTo : MethodName := ⟨RX2, "giveTo", "(LLeafSigner$Pairs;I)V"⟩
abbrev cX2_gave : ByteArray := prog_4_method_9_code
def yX2_gave : MethodName := ⟨RX2, "gave", "(LLeafSigner$Pairs;I)Z"⟩
abbrev cX2_mixed : ByteArray := prog_4_method_10_code
def yX2_mixed : MethodName := ⟨RX2, "mixed", "(J)J"⟩
def RX3 : String := "LeafSigner$Keys"
def TX3 : u_T := fun k => match k with
  | 0 => ("LeafSigner$Keys", "one", "J", false)
  | 1 => ("LeafSigner$Keys", "two", "J", false)
  | 2 => ("LeafSigner$Keys", "open", "J", false)
  | _ => ("LeafSigner$Keys", "height", "I", false)
def tyX3 : Nat → FieldType := fun k => match k with
  | 0 => .long
  | 1 => .long
  | 2 => .long
  | _ => .int
abbrev wsX30 : List Cond := u_ws RX3 TX3 4
theorem nmX3 : ∀ a, a < 4 → ∀ b, b < 4 → a ≠ b → (TX3 a).2.1 ≠ (TX3 b).2.1 := by decide +kernel
theorem tyX3_ok : ∀ k, k < 4 → parseFieldDescriptor (TX3 k).2.2.1 = some (tyX3 k) := by decide +kernel
abbrev cX3_init : ByteArray := prog_5_method_1_code
def yX3_init : MethodName := ⟨RX3, "<init>", "()V"⟩
abbrev cX3_renew : ByteArray := prog_5_method_2_code
def yX3_renew : MethodName := ⟨RX3, "renew", "(JJJI)V"⟩
abbrev cX3_leaves : ByteArray := prog_5_method_3_code
def yX3_leaves : MethodName := ⟨RX3, "leaves", "()I"⟩
abbrev cX3_hasLeaf : ByteArray := prog_5_method_4_code
def yX3_hasLeaf : MethodName := ⟨RX3, "hasLeaf", "(I)Z"⟩
def RX4 : String := "LeafSigner$Message"
def TX4 : u_T := fun k => match k with
  | 0 => ("LeafSigner$Message", "longs", "[J", true)
  | _ => ("LeafSigner$Message", "size", "I", false)
def tyX4 : Nat → FieldType := fun k => match k with
  | 0 => .array .long
  | _ => .int
abbrev wsX40 : List Cond := u_ws RX4 TX4 2
theorem nmX4 : ∀ a, a < 2 → ∀ b, b < 2 → a ≠ b → (TX4 a).2.1 ≠ (TX4 b).2.1 := by decide +kernel
theorem tyX4_ok : ∀ k, k < 2 → parseFieldDescriptor (TX4 k).2.2.1 = some (tyX4 k) := by decide +kernel
abbrev cX4_init : ByteArray := prog_6_method_1_code
def yX4_init : MethodName := ⟨RX4, "<init>", "()V"⟩
abbrev cX4_isFull : ByteArray := prog_6_method_2_code
def yX4_isFull : MethodName := ⟨RX4, "isFull", "()Z"⟩
abbrev cX4_append : ByteArray := prog_6_method_3_code
def yX4_append : MethodName := ⟨RX4, "append", "(J)V"⟩
abbrev cX4_clear : ByteArray := prog_6_method_4_code
def yX4_clear : MethodName := ⟨RX4, "clear", "()V"⟩
def RX5 : String := "LeafSigner$Pairs"
def TX5 : u_T := fun k => match k with
  | _ => ("LeafSigner$Pairs", "longs", "[J", true)
def tyX5 : Nat → FieldType := fun k => match k with
  | _ => .array .long
abbrev wsX50 : List Cond := u_ws RX5 TX5 1
theorem nmX5 : ∀ a, a < 1 → ∀ b, b < 1 → a ≠ b → (TX5 a).2.1 ≠ (TX5 b).2.1 := by decide +kernel
theorem tyX5_ok : ∀ k, k < 1 → parseFieldDescriptor (TX5 k).2.2.1 = some (tyX5 k) := by decide +kernel
abbrev cX5_init : ByteArray := prog_7_method_1_code
def yX5_init : MethodName := ⟨RX5, "<init>", "(I)V"⟩
abbrev cX5_at : ByteArray := prog_7_method_2_code
def yX5_at : MethodName := ⟨RX5, "at", "(II)J"⟩
abbrev cX5_put : ByteArray := prog_7_method_3_code
def yX5_put : MethodName := ⟨RX5, "put", "(IIJ)V"⟩
abbrev cX5_copy : ByteArray := prog_7_method_4_code
def yX5_copy : MethodName := ⟨RX5, "copy", "(ILLeafSigner$Pairs;I)V"⟩
def RX6 : String := "LeafSigner$Signature"
def TX6 : u_T := fun k => match k with
  | 0 => ("LeafSigner$Signature", "parts", "LLeafSigner$Pairs;", true)
  | 1 => ("LeafSigner$Signature", "leaf", "I", false)
  | _ => ("LeafSigner$Signature", "size", "I", false)
def tyX6 : Nat → FieldType := fun k => match k with
  | 0 => .object "LeafSigner$Pairs"
  | 1 => .int
  | _ => .int
abbrev wsX60 : List Cond := u_ws RX6 TX6 3
theorem nmX6 : ∀ a, a < 3 → ∀ b, b < 3 → a ≠ b → (TX6 a).2.1 ≠ (TX6 b).2.1 := by decide +kernel
theorem tyX6_ok : ∀ k, k < 3 → parseFieldDescriptor (TX6 k).2.2.1 = some (tyX6 k) := by decide +kernel
abbrev cX6_init : ByteArray := prog_8_method_1_code
def yX6_init : MethodName := ⟨RX6, "<init>", "()V"⟩
abbrev cX6_open : ByteArray := prog_8_method_2_code
def yX6_open : MethodName := ⟨RX6, "open", "(II)V"⟩
abbrev cX6_clear : ByteArray := prog_8_method_3_code
def yX6_clear : MethodName := ⟨RX6, "clear", "()V"⟩
abbrev cX6_isThere : ByteArray := prog_8_method_4_code
def yX6_isThere : MethodName := ⟨RX6, "isThere", "()Z"⟩
abbrev cX6_hasPart : ByteArray := prog_8_method_5_code
def yX6_hasPart : MethodName := ⟨RX6, "hasPart", "(I)Z"⟩
def RX7 : String := "LeafSigner$Tree"
def TX7 : u_T := fun k => match k with
  | 0 => ("LeafSigner$Tree", "nodes", "LLeafSigner$Pairs;", true)
  | _ => ("LeafSigner$Tree", "made", "I", false)
def tyX7 : Nat → FieldType := fun k => match k with
  | 0 => .object "LeafSigner$Pairs"
  | _ => .int
abbrev wsX70 : List Cond := u_ws RX7 TX7 2
theorem nmX7 : ∀ a, a < 2 → ∀ b, b < 2 → a ≠ b → (TX7 a).2.1 ≠ (TX7 b).2.1 := by decide +kernel
theorem tyX7_ok : ∀ k, k < 2 → parseFieldDescriptor (TX7 k).2.2.1 = some (tyX7 k) := by decide +kernel
abbrev cX7_init : ByteArray := prog_9_method_1_code
def yX7_init : MethodName := ⟨RX7, "<init>", "()V"⟩
abbrev cX7_slot : ByteArray := prog_9_method_2_code
def yX7_slot : MethodName := ⟨RX7, "slot", "(III)I"⟩
abbrev cX7_clear : ByteArray := prog_9_method_3_code
def yX7_clear : MethodName := ⟨RX7, "clear", "()V"⟩
abbrev cX7_isMade : ByteArray := prog_9_method_4_code
def yX7_isMade : MethodName := ⟨RX7, "isMade", "(III)Z"⟩
abbrev cX7_addLeaf : ByteArray := prog_9_method_5_code
def yX7_addLeaf : MethodName := ⟨RX7, "addLeaf", "(LLeafSigner$Keys;LLeafSigner$Hasher;)V"⟩
abbrev cX7_hashNode : ByteArray := prog_9_method_6_code
def yX7_hashNode : MethodName := ⟨RX7, "hashNode", "(LLeafSigner$Keys;IILLeafSigner$Hasher;)V"⟩
def RX8 : String := "LeafSigner"
def TX8 : u_T := fun k => match k with
  | 0 => ("LeafSigner", "keys", "LLeafSigner$Keys;", true)
  | 1 => ("LeafSigner", "hasher", "LLeafSigner$Hasher;", true)
  | 2 => ("LeafSigner", "chains", "LLeafSigner$Chains;", true)
  | 3 => ("LeafSigner", "tree", "LLeafSigner$Tree;", true)
  | 4 => ("LeafSigner", "message", "LLeafSigner$Message;", true)
  | 5 => ("LeafSigner", "digits", "LLeafSigner$Digits;", true)
  | 6 => ("LeafSigner", "signature", "LLeafSigner$Signature;", true)
  | 7 => ("LeafSigner", "told", "LLeafSigner$Pairs;", true)
  | _ => ("LeafSigner", "used", "I", false)
def tyX8 : Nat → FieldType := fun k => match k with
  | 0 => .object "LeafSigner$Keys"
  | 1 => .object "LeafSigner$Hasher"
  | 2 => .object "LeafSigner$Chains"
  | 3 => .object "LeafSigner$Tree"
  | 4 => .object "LeafSigner$Message"
  | 5 => .object "LeafSigner$Digits"
  | 6 => .object "LeafSigner$Signature"
  | 7 => .object "LeafSigner$Pairs"
  | _ => .int
abbrev wsX80 : List Cond := u_ws RX8 TX8 9
theorem nmX8 : ∀ a, a < 9 → ∀ b, b < 9 → a ≠ b → (TX8 a).2.1 ≠ (TX8 b).2.1 := by decide +kernel
theorem tyX8_ok : ∀ k, k < 9 → parseFieldDescriptor (TX8 k).2.2.1 = some (tyX8 k) := by decide +kernel
abbrev cX8_init : ByteArray := prog_1_method_1_code
def yX8_init : MethodName := ⟨RX8, "<init>", "()V"⟩
abbrev cX8_begin : ByteArray := prog_1_method_2_code
def yX8_begin : MethodName := ⟨RX8, "begin", "(JJJI)I"⟩
abbrev cX8_grow : ByteArray := prog_1_method_3_code
def yX8_grow : MethodName := ⟨RX8, "grow", "(I)I"⟩
abbrev cX8_node : ByteArray := prog_1_method_4_code
def yX8_node : MethodName := ⟨RX8, "node", "(III)J"⟩
abbrev cX8_feed : ByteArray := prog_1_method_5_code
def yX8_feed : MethodName := ⟨RX8, "feed", "(J)I"⟩
abbrev cX8_reset : ByteArray := prog_1_method_6_code
def yX8_reset : MethodName := ⟨RX8, "reset", "()I"⟩
abbrev cX8_digit : ByteArray := prog_1_method_7_code
def yX8_digit : MethodName := ⟨RX8, "digit", "(II)I"⟩
abbrev cX8_sign : ByteArray := prog_1_method_8_code
def yX8_sign : MethodName := ⟨RX8, "sign", "()I"⟩
abbrev cX8_leaf : ByteArray := prog_1_method_9_code
def yX8_leaf : MethodName := ⟨RX8, "leaf", "()I"⟩
abbrev cX8_part : ByteArray := prog_1_method_10_code
def yX8_part : MethodName := ⟨RX8, "part", "(II)J"⟩
abbrev cX8_setLeaf : ByteArray := prog_1_method_11_code
def yX8_setLeaf : MethodName := ⟨RX8, "setLeaf", "(I)I"⟩
abbrev cX8_setPart : ByteArray := prog_1_method_12_code
def yX8_setPart : MethodName := ⟨RX8, "setPart", "(IIJ)I"⟩
abbrev cX8_tell : ByteArray := prog_1_method_13_code
def yX8_tell : MethodName := ⟨RX8, "tell", "(IJ)I"⟩
abbrev cX8_verify : ByteArray := prog_1_method_14_code
def yX8_verify : MethodName := ⟨RX8, "verify", "()I"⟩
abbrev cX8_hash : ByteArray := prog_1_method_15_code
def yX8_hash : MethodName := ⟨RX8, "hash", "(II)J"⟩
abbrev cX8_count : ByteArray := prog_1_method_16_code
def yX8_count : MethodName := ⟨RX8, "count", "(I)I"⟩
abbrev cX8_check : ByteArray := prog_1_method_17_code
def yX8_check : MethodName := ⟨RX8, "check", "()I"⟩
abbrev cX8_isHalf : ByteArray := prog_1_method_18_code
def yX8_isHalf : MethodName := ⟨RX8, "isHalf", "(I)Z"⟩
abbrev cX8_isRootMade : ByteArray := prog_1_method_19_code
def yX8_isRootMade : MethodName := ⟨RX8, "isRootMade", "()Z"⟩
abbrev cX8_readDigits : ByteArray := prog_1_method_20_code
def yX8_readDigits : MethodName := ⟨RX8, "readDigits", "(ILLeafSigner$Pairs;I)V"⟩
abbrev cX8_climbToRoot : ByteArray := prog_1_method_21_code
def yX8_climbToRoot : MethodName := ⟨RX8, "climbToRoot", "()V"⟩
def RX9 : String := "LeafSignerModel"
def TX9 : u_T := fun k => match k with
  | 0 => ("LeafSignerModel", "one", "J", false)
  | 1 => ("LeafSignerModel", "two", "J", false)
  | 2 => ("LeafSignerModel", "open", "J", false)
  | 3 => ("LeafSignerModel", "height", "I", false)
  | 4 => ("LeafSignerModel", "made", "I", false)
  | 5 => ("LeafSignerModel", "used", "I", false)
  | 6 => ("LeafSignerModel", "firsts", "[J", true)
  | 7 => ("LeafSignerModel", "seconds", "[J", true)
  | 8 => ("LeafSignerModel", "message", "[J", true)
  | 9 => ("LeafSignerModel", "length", "I", false)
  | 10 => ("LeafSignerModel", "signed", "Z", false)
  | 11 => ("LeafSignerModel", "signer", "I", false)
  | 12 => ("LeafSignerModel", "partFirsts", "[J", true)
  | 13 => ("LeafSignerModel", "partSeconds", "[J", true)
  | 14 => ("LeafSignerModel", "toldFirst", "J", false)
  | 15 => ("LeafSignerModel", "toldSecond", "J", false)
  | 16 => ("LeafSignerModel", "a", "J", false)
  | 17 => ("LeafSignerModel", "b", "J", false)
  | 18 => ("LeafSignerModel", "endFirsts", "[J", true)
  | 19 => ("LeafSignerModel", "endSeconds", "[J", true)
  | _ => ("LeafSignerModel", "digits", "[I", true)
def tyX9 : Nat → FieldType := fun k => match k with
  | 0 => .long
  | 1 => .long
  | 2 => .long
  | 3 => .int
  | 4 => .int
  | 5 => .int
  | 6 => .array .long
  | 7 => .array .long
  | 8 => .array .long
  | 9 => .int
  | 10 => .boolean
  | 11 => .int
  | 12 => .array .long
  | 13 => .array .long
  | 14 => .long
  | 15 => .long
  | 16 => .long
  | 17 => .long
  | 18 => .array .long
  | 19 => .array .long
  | _ => .array .int
abbrev wsX90 : List Cond := u_ws RX9 TX9 21
theorem nmX9 : ∀ a, a < 21 → ∀ b, b < 21 → a ≠ b → (TX9 a).2.1 ≠ (TX9 b).2.1 := by decide +kernel
theorem tyX9_ok : ∀ k, k < 21 → parseFieldDescriptor (TX9 k).2.2.1 = some (tyX9 k) := by decide +kernel
abbrev cX9_init : ByteArray := prog_11_method_1_code
def yX9_init : MethodName := ⟨RX9, "<init>", "()V"⟩
abbrev cX9_mixed : ByteArray := prog_11_method_2_code
def yX9_mixed : MethodName := ⟨RX9, "mixed", "(J)J"⟩
abbrev cX9_take : ByteArray := prog_11_method_3_code
def yX9_take : MethodName := ⟨RX9, "take", "(JI)V"⟩
abbrev cX9_put : ByteArray := prog_11_method_4_code
def yX9_put : MethodName := ⟨RX9, "put", "(J)V"⟩
abbrev cX9_carry : ByteArray := prog_11_method_5_code
def yX9_carry : MethodName := ⟨RX9, "carry", "(IIII)V"⟩
abbrev cX9_place : ByteArray := prog_11_method_6_code
def yX9_place : MethodName := ⟨RX9, "place", "(III)V"⟩
abbrev cX9_gather : ByteArray := prog_11_method_7_code
def yX9_gather : MethodName := ⟨RX9, "gather", "(I)V"⟩
abbrev cX9_join : ByteArray := prog_11_method_8_code
def yX9_join : MethodName := ⟨RX9, "join", "(IIJJJJ)V"⟩
abbrev cX9_at : ByteArray := prog_11_method_9_code
def yX9_at : MethodName := ⟨RX9, "at", "(II)I"⟩
abbrev cX9_leaves : ByteArray := prog_11_method_10_code
def yX9_leaves : MethodName := ⟨RX9, "leaves", "()I"⟩
abbrev cX9_isMade : ByteArray := prog_11_method_11_code
def yX9_isMade : MethodName := ⟨RX9, "isMade", "(II)Z"⟩
abbrev cX9_hasRoot : ByteArray := prog_11_method_12_code
def yX9_hasRoot : MethodName := ⟨RX9, "hasRoot", "()Z"⟩
abbrev cX9_begin : ByteArray := prog_11_method_13_code
def yX9_begin : MethodName := ⟨RX9, "begin", "(JJJI)I"⟩
abbrev cX9_grow : ByteArray := prog_11_method_14_code
def yX9_grow : MethodName := ⟨RX9, "grow", "(I)I"⟩
abbrev cX9_node : ByteArray := prog_11_method_15_code
def yX9_node : MethodName := ⟨RX9, "node", "(III)J"⟩
abbrev cX9_feed : ByteArray := prog_11_method_16_code
def yX9_feed : MethodName := ⟨RX9, "feed", "(J)I"⟩
abbrev cX9_reset : ByteArray := prog_11_method_17_code
def yX9_reset : MethodName := ⟨RX9, "reset", "()I"⟩
abbrev cX9_findDigits : ByteArray := prog_11_method_18_code
def yX9_findDigits : MethodName := ⟨RX9, "findDigits", "(IJJ)V"⟩
abbrev cX9_digit : ByteArray := prog_11_method_19_code
def yX9_digit : MethodName := ⟨RX9, "digit", "(II)I"⟩
abbrev cX9_sign : ByteArray := prog_11_method_20_code
def yX9_sign : MethodName := ⟨RX9, "sign", "()I"⟩
abbrev cX9_leaf : ByteArray := prog_11_method_21_code
def yX9_leaf : MethodName := ⟨RX9, "leaf", "()I"⟩
abbrev cX9_isPart : ByteArray := prog_11_method_22_code
def yX9_isPart : MethodName := ⟨RX9, "isPart", "(II)Z"⟩
abbrev cX9_part : ByteArray := prog_11_method_23_code
def yX9_part : MethodName := ⟨RX9, "part", "(II)J"⟩
abbrev cX9_setLeaf : ByteArray := prog_11_method_24_code
def yX9_setLeaf : MethodName := ⟨RX9, "setLeaf", "(I)I"⟩
abbrev cX9_setPart : ByteArray := prog_11_method_25_code
def yX9_setPart : MethodName := ⟨RX9, "setPart", "(IIJ)I"⟩
abbrev cX9_tell : ByteArray := prog_11_method_26_code
def yX9_tell : MethodName := ⟨RX9, "tell", "(IJ)I"⟩
abbrev cX9_verify : ByteArray := prog_11_method_27_code
def yX9_verify : MethodName := ⟨RX9, "verify", "()I"⟩
abbrev cX9_hash : ByteArray := prog_11_method_28_code
def yX9_hash : MethodName := ⟨RX9, "hash", "(II)J"⟩
abbrev cX9_count : ByteArray := prog_11_method_29_code
def yX9_count : MethodName := ⟨RX9, "count", "(I)I"⟩
abbrev cX9_check : ByteArray := prog_11_method_30_code
def yX9_check : MethodName := ⟨RX9, "check", "()I"⟩
def RJ9 : String := "java/lang/Math"
def TJ9 : u_T := fun k => match k with
  | _ => ("", "", "", false)
def tyJ9 : Nat → FieldType := fun k => match k with
  | _ => .int
abbrev wsJ90 : List Cond := u_ws RJ9 TJ9 0
theorem nmJ9 : ∀ a, a < 0 → ∀ b, b < 0 → a ≠ b → (TJ9 a).2.1 ≠ (TJ9 b).2.1 := by decide +kernel
theorem tyJ9_ok : ∀ k, k < 0 → parseFieldDescriptor (TJ9 k).2.2.1 = some (tyJ9 k) := by decide +kernel
abbrev cJ9_min_7cf53 : ByteArray := prog_12_method_69_code
def yJ9_min_7cf53 : MethodName := ⟨RJ9, "min", "(II)I"⟩
def RL : String := "LeafSignerLaw"
abbrev cL_law : ByteArray := code
def yL_law : MethodName := ⟨RL, "law", "([I)Z"⟩
def wsX5_init : List Cond := .code yX5_init cX5_init 2 none :: ([.methodLink RX5 1 objectInit, .instanceMethod objectInit, .code objectInit ⟨#[0xb1]⟩ 1 none, .arrayClass .long, .fieldLink RX5 7 "LeafSigner$Pairs" "longs" "[J"] ++ wsX50)
def wsX2_init : List Cond := .code yX2_init cX2_init 1 none :: ([.methodLink RX2 3 objectInit, .instanceMethod objectInit, .code objectInit ⟨#[0xb1]⟩ 1 none])
def wsX0_init : List Cond := .code yX0_init cX0_init 1 none :: ([.methodLink RX0 3 objectInit, .instanceMethod objectInit, .code objectInit ⟨#[0xb1]⟩ 1 none, .classLink RX0 9 RX5, .instantiable RX5 1, .initialized RX5, .fieldLink RX0 14 "LeafSigner$Chains" "ends" "LLeafSigner$Pairs;", .classLink RX0 20 RX2, .instantiable RX2 2, .initialized RX2, .fieldLink RX0 23 "LeafSigner$Chains" "hasher" "LLeafSigner$Hasher;", .methodLink RX0 11 yX5_init, .instanceMethod yX5_init, .code yX5_init cX5_init 2 none, .methodLink RX5 1 objectInit, .arrayClass .long, .fieldLink RX5 7 "LeafSigner$Pairs" "longs" "[J", .instanceMethod yX2_init, .code yX2_init cX2_init 1 none, .methodLink RX2 3 objectInit] ++ wsX50 ++ wsX00 ++ wsX20)
def wsX2_start : List Cond := .code yX2_start cX2_start 3 none :: ([.fieldLink RX2 9 "LeafSigner$Hasher" "a" "J", .fieldLink RX2 15 "LeafSigner$Hasher" "b" "J"] ++ wsX20)
def wsX2_mixed : List Cond := .code yX2_mixed cX2_mixed 6 (some .long) :: ([.constantLong RX2 54 (-4658895280553007687), .constantLong RX2 56 (-7723592293110705685)])
def wsX2_add : List Cond := .code yX2_add cX2_add 3 none :: ([.fieldLink RX2 9 "LeafSigner$Hasher" "a" "J", .fieldLink RX2 15 "LeafSigner$Hasher" "b" "J", .methodLink RX2 18 yX2_mixed, .static yX2_mixed, .initialized RX2, .code yX2_mixed cX2_mixed 6 (some .long), .constantLong RX2 54 (-4658895280553007687), .constantLong RX2 56 (-7723592293110705685)] ++ wsX20)
def wsX5_put : List Cond := .code yX5_put cX5_put 5 none :: ([.fieldLink RX5 7 "LeafSigner$Pairs" "longs" "[J"] ++ wsX50)
def wsX2_giveTo : List Cond := .code yX2_giveTo cX2_giveTo 3 none :: ([.fieldLink RX2 9 "LeafSigner$Hasher" "a" "J", .fieldLink RX2 15 "LeafSigner$Hasher" "b" "J", .methodLink RX2 50 yX5_put, .instanceMethod yX5_put, .selects RX5 yX5_put yX5_put, .initialized RX5, .code yX5_put cX5_put 5 none, .fieldLink RX5 7 "LeafSigner$Pairs" "longs" "[J"] ++ wsX20 ++ wsX50)
def wsX0_makeStart_r1 : List Cond := [Cond.fieldLink RX0 23 "LeafSigner$Chains" "hasher" "LLeafSigner$Hasher;", Cond.fieldLink RX0 31 "LeafSigner$Keys" "one" "J", Cond.fieldLink RX0 41 "LeafSigner$Keys" "two" "J", Cond.methodLink RX0 27 yX2_start, Cond.instanceMethod yX2_start, Cond.selects RX2 yX2_start yX2_start, Cond.initialized RX2, Cond.code yX2_start cX2_start 3 none, Cond.fieldLink RX2 9 "LeafSigner$Hasher" "a" "J", Cond.fieldLink RX2 15 "LeafSigner$Hasher" "b" "J", Cond.methodLink RX0 37 yX2_add, Cond.instanceMethod yX2_add, Cond.selects RX2 yX2_add yX2_add, Cond.code yX2_add cX2_add 3 none, Cond.methodLink RX2 18 yX2_mixed, Cond.static yX2_mixed, Cond.code yX2_mixed cX2_mixed 6 (some .long), Cond.constantLong RX2 54 (-4658895280553007687), Cond.constantLong RX2 56 (-7723592293110705685), Cond.methodLink RX0 44 yX2_giveTo, Cond.instanceMethod yX2_giveTo, Cond.selects RX2 yX2_giveTo yX2_giveTo, Cond.code yX2_giveTo cX2_giveTo 3 none, Cond.methodLink RX2 50 yX5_put]
def wsX0_makeStart_r2 : List Cond := [Cond.instanceMethod yX5_put, Cond.selects RX5 yX5_put yX5_put, Cond.initialized RX5, Cond.code yX5_put cX5_put 5 none, Cond.fieldLink RX5 7 "LeafSigner$Pairs" "longs" "[J"]
def wsX0_makeStart : List Cond := .code yX0_makeStart cX0_makeStart 5 none :: ((wsX0_makeStart_r1 ++ wsX0_makeStart_r2) ++ wsX00 ++ wsX30 ++ wsX20 ++ wsX50)
def wsX5_at : List Cond := .code yX5_at cX5_at 3 (some .long) :: ([.fieldLink RX5 7 "LeafSigner$Pairs" "longs" "[J"] ++ wsX50)
def wsX2_addPair : List Cond := .code yX2_addPair cX2_addPair 3 none :: ([.methodLink RX2 22 yX5_at, .instanceMethod yX5_at, .selects RX5 yX5_at yX5_at, .initialized RX5, .code yX5_at cX5_at 3 (some .long), .fieldLink RX5 7 "LeafSigner$Pairs" "longs" "[J", .methodLink RX2 28 yX2_add, .instanceMethod yX2_add, .selects RX2 yX2_add yX2_add, .initialized RX2, .code yX2_add cX2_add 3 none, .fieldLink RX2 9 "LeafSigner$Hasher" "a" "J", .fieldLink RX2 15 "LeafSigner$Hasher" "b" "J", .methodLink RX2 18 yX2_mixed, .static yX2_mixed, .code yX2_mixed cX2_mixed 6 (some .long), .constantLong RX2 54 (-4658895280553007687), .constantLong RX2 56 (-7723592293110705685)] ++ wsX50 ++ wsX20)
def wsX0_carry_r1 : List Cond := [Cond.fieldLink RX0 23 "LeafSigner$Chains" "hasher" "LLeafSigner$Hasher;", Cond.methodLink RX0 27 yX2_start, Cond.instanceMethod yX2_start, Cond.selects RX2 yX2_start yX2_start, Cond.initialized RX2, Cond.code yX2_start cX2_start 3 none, Cond.fieldLink RX2 9 "LeafSigner$Hasher" "a" "J", Cond.fieldLink RX2 15 "LeafSigner$Hasher" "b" "J", Cond.methodLink RX0 37 yX2_add, Cond.instanceMethod yX2_add, Cond.selects RX2 yX2_add yX2_add, Cond.code yX2_add cX2_add 3 none, Cond.methodLink RX2 18 yX2_mixed, Cond.static yX2_mixed, Cond.code yX2_mixed cX2_mixed 6 (some .long), Cond.constantLong RX2 54 (-4658895280553007687), Cond.constantLong RX2 56 (-7723592293110705685), Cond.methodLink RX0 48 yX2_addPair, Cond.instanceMethod yX2_addPair, Cond.selects RX2 yX2_addPair yX2_addPair, Cond.code yX2_addPair cX2_addPair 3 none, Cond.methodLink RX2 22 yX5_at, Cond.instanceMethod yX5_at, Cond.selects RX5 yX5_at yX5_at]
def wsX0_carry_r2 : List Cond := [Cond.initialized RX5, Cond.code yX5_at cX5_at 3 (some .long), Cond.fieldLink RX5 7 "LeafSigner$Pairs" "longs" "[J", Cond.methodLink RX2 28 yX2_add, Cond.methodLink RX0 44 yX2_giveTo, Cond.instanceMethod yX2_giveTo, Cond.selects RX2 yX2_giveTo yX2_giveTo, Cond.code yX2_giveTo cX2_giveTo 3 none, Cond.methodLink RX2 50 yX5_put, Cond.instanceMethod yX5_put, Cond.selects RX5 yX5_put yX5_put, Cond.code yX5_put cX5_put 5 none]
def wsX0_carry : List Cond := .code yX0_carry cX0_carry 9 none :: ((wsX0_carry_r1 ++ wsX0_carry_r2) ++ wsX00 ++ wsX20 ++ wsX50)
def wsX0_makeEnds_r1 : List Cond := [Cond.fieldLink RX0 14 "LeafSigner$Chains" "ends" "LLeafSigner$Pairs;", Cond.fieldLink RX0 55 "LeafSigner$Keys" "open" "J", Cond.methodLink RX0 51 yX0_makeStart, Cond.instanceMethod yX0_makeStart, Cond.selects RX0 yX0_makeStart yX0_makeStart, Cond.initialized RX0, Cond.code yX0_makeStart cX0_makeStart 5 none, Cond.fieldLink RX0 23 "LeafSigner$Chains" "hasher" "LLeafSigner$Hasher;", Cond.fieldLink RX0 31 "LeafSigner$Keys" "one" "J", Cond.fieldLink RX0 41 "LeafSigner$Keys" "two" "J", Cond.methodLink RX0 27 yX2_start, Cond.instanceMethod yX2_start, Cond.selects RX2 yX2_start yX2_start, Cond.initialized RX2, Cond.code yX2_start cX2_start 3 none, Cond.fieldLink RX2 9 "LeafSigner$Hasher" "a" "J", Cond.fieldLink RX2 15 "LeafSigner$Hasher" "b" "J", Cond.methodLink RX0 37 yX2_add, Cond.instanceMethod yX2_add, Cond.selects RX2 yX2_add yX2_add, Cond.code yX2_add cX2_add 3 none, Cond.methodLink RX2 18 yX2_mixed, Cond.static yX2_mixed, Cond.code yX2_mixed cX2_mixed 6 (some .long)]
def wsX0_makeEnds_r2 : List Cond := [Cond.constantLong RX2 54 (-4658895280553007687), Cond.constantLong RX2 56 (-7723592293110705685), Cond.methodLink RX0 44 yX2_giveTo, Cond.instanceMethod yX2_giveTo, Cond.selects RX2 yX2_giveTo yX2_giveTo, Cond.code yX2_giveTo cX2_giveTo 3 none, Cond.methodLink RX2 50 yX5_put, Cond.instanceMethod yX5_put, Cond.selects RX5 yX5_put yX5_put, Cond.initialized RX5, Cond.code yX5_put cX5_put 5 none, Cond.fieldLink RX5 7 "LeafSigner$Pairs" "longs" "[J", Cond.methodLink RX0 58 yX0_carry, Cond.instanceMethod yX0_carry, Cond.selects RX0 yX0_carry yX0_carry, Cond.code yX0_carry cX0_carry 9 none, Cond.methodLink RX0 48 yX2_addPair, Cond.instanceMethod yX2_addPair, Cond.selects RX2 yX2_addPair yX2_addPair, Cond.code yX2_addPair cX2_addPair 3 none, Cond.methodLink RX2 22 yX5_at, Cond.instanceMethod yX5_at, Cond.selects RX5 yX5_at yX5_at, Cond.code yX5_at cX5_at 3 (some .long)]
def wsX0_makeEnds_r3 : List Cond := [Cond.methodLink RX2 28 yX2_add]
def wsX0_makeEnds : List Cond := .code yX0_makeEnds cX0_makeEnds 4 none :: ((wsX0_makeEnds_r1 ++ (wsX0_makeEnds_r2 ++ wsX0_makeEnds_r3)) ++ wsX00 ++ wsX30 ++ wsX20 ++ wsX50)
def wsX5_copy : List Cond := .code yX5_copy cX5_copy 4 none :: ([.methodLink RX5 13 yX5_at, .instanceMethod yX5_at, .selects RX5 yX5_at yX5_at, .initialized RX5, .code yX5_at cX5_at 3 (some .long), .fieldLink RX5 7 "LeafSigner$Pairs" "longs" "[J", .methodLink RX5 17 yX5_put, .instanceMethod yX5_put, .selects RX5 yX5_put yX5_put, .code yX5_put cX5_put 5 none] ++ wsX50)
def wsX0_carryAllToEnds_r1 : List Cond := [Cond.fieldLink RX0 14 "LeafSigner$Chains" "ends" "LLeafSigner$Pairs;", Cond.fieldLink RX0 62 "LeafSigner$Signature" "parts" "LLeafSigner$Pairs;", Cond.fieldLink RX0 71 "LeafSigner$Signature" "leaf" "I", Cond.fieldLink RX0 75 "LeafSigner$Digits" "values" "[I", Cond.methodLink RX0 67 yX5_copy, Cond.instanceMethod yX5_copy, Cond.selects RX5 yX5_copy yX5_copy, Cond.initialized RX5, Cond.code yX5_copy cX5_copy 4 none, Cond.methodLink RX5 13 yX5_at, Cond.instanceMethod yX5_at, Cond.selects RX5 yX5_at yX5_at, Cond.code yX5_at cX5_at 3 (some .long), Cond.fieldLink RX5 7 "LeafSigner$Pairs" "longs" "[J", Cond.methodLink RX5 17 yX5_put, Cond.instanceMethod yX5_put, Cond.selects RX5 yX5_put yX5_put, Cond.code yX5_put cX5_put 5 none, Cond.methodLink RX0 58 yX0_carry, Cond.instanceMethod yX0_carry, Cond.selects RX0 yX0_carry yX0_carry, Cond.initialized RX0, Cond.code yX0_carry cX0_carry 9 none, Cond.fieldLink RX0 23 "LeafSigner$Chains" "hasher" "LLeafSigner$Hasher;"]
def wsX0_carryAllToEnds_r2 : List Cond := [Cond.methodLink RX0 27 yX2_start, Cond.instanceMethod yX2_start, Cond.selects RX2 yX2_start yX2_start, Cond.initialized RX2, Cond.code yX2_start cX2_start 3 none, Cond.fieldLink RX2 9 "LeafSigner$Hasher" "a" "J", Cond.fieldLink RX2 15 "LeafSigner$Hasher" "b" "J", Cond.methodLink RX0 37 yX2_add, Cond.instanceMethod yX2_add, Cond.selects RX2 yX2_add yX2_add, Cond.code yX2_add cX2_add 3 none, Cond.methodLink RX2 18 yX2_mixed, Cond.static yX2_mixed, Cond.code yX2_mixed cX2_mixed 6 (some .long), Cond.constantLong RX2 54 (-4658895280553007687), Cond.constantLong RX2 56 (-7723592293110705685), Cond.methodLink RX0 48 yX2_addPair, Cond.instanceMethod yX2_addPair, Cond.selects RX2 yX2_addPair yX2_addPair, Cond.code yX2_addPair cX2_addPair 3 none, Cond.methodLink RX2 22 yX5_at, Cond.methodLink RX2 28 yX2_add, Cond.methodLink RX0 44 yX2_giveTo, Cond.instanceMethod yX2_giveTo]
def wsX0_carryAllToEnds_r3 : List Cond := [Cond.selects RX2 yX2_giveTo yX2_giveTo, Cond.code yX2_giveTo cX2_giveTo 3 none, Cond.methodLink RX2 50 yX5_put]
def wsX0_carryAllToEnds : List Cond := .code yX0_carryAllToEnds cX0_carryAllToEnds 6 none :: ((wsX0_carryAllToEnds_r1 ++ (wsX0_carryAllToEnds_r2 ++ wsX0_carryAllToEnds_r3)) ++ wsX00 ++ wsX60 ++ wsX10 ++ wsX50 ++ wsX20)
def wsX1_init : List Cond := .code yX1_init cX1_init 1 none :: ([.methodLink RX1 3 objectInit, .instanceMethod objectInit, .code objectInit ⟨#[0xb1]⟩ 1 none, .arrayClass .int, .fieldLink RX1 9 "LeafSigner$Digits" "values" "[I"] ++ wsX10)
def wsX1_fourBits : List Cond := .code yX1_fourBits cX1_fourBits 3 (some .int) :: ([])
def wsX1_read : List Cond := .code yX1_read cX1_read 9 none :: ([.fieldLink RX1 9 "LeafSigner$Digits" "values" "[I", .methodLink RX1 15 yX1_fourBits, .static yX1_fourBits, .initialized RX1, .code yX1_fourBits cX1_fourBits 3 (some .int)] ++ wsX10)
def wsX2_addMessage : List Cond := .code yX2_addMessage cX2_addMessage 3 none :: ([.fieldLink RX2 32 "LeafSigner$Message" "size" "I", .fieldLink RX2 38 "LeafSigner$Message" "longs" "[J", .methodLink RX2 28 yX2_add, .instanceMethod yX2_add, .selects RX2 yX2_add yX2_add, .initialized RX2, .code yX2_add cX2_add 3 none, .fieldLink RX2 9 "LeafSigner$Hasher" "a" "J", .fieldLink RX2 15 "LeafSigner$Hasher" "b" "J", .methodLink RX2 18 yX2_mixed, .static yX2_mixed, .code yX2_mixed cX2_mixed 6 (some .long), .constantLong RX2 54 (-4658895280553007687), .constantLong RX2 56 (-7723592293110705685)] ++ wsX40 ++ wsX20)
def wsX2_hashLeaf_r1 : List Cond := [Cond.methodLink RX2 42 yX2_start, Cond.instanceMethod yX2_start, Cond.selects RX2 yX2_start yX2_start, Cond.initialized RX2, Cond.code yX2_start cX2_start 3 none, Cond.fieldLink RX2 9 "LeafSigner$Hasher" "a" "J", Cond.fieldLink RX2 15 "LeafSigner$Hasher" "b" "J", Cond.methodLink RX2 28 yX2_add, Cond.instanceMethod yX2_add, Cond.selects RX2 yX2_add yX2_add, Cond.code yX2_add cX2_add 3 none, Cond.methodLink RX2 18 yX2_mixed, Cond.static yX2_mixed, Cond.code yX2_mixed cX2_mixed 6 (some .long), Cond.constantLong RX2 54 (-4658895280553007687), Cond.constantLong RX2 56 (-7723592293110705685), Cond.methodLink RX2 46 yX2_addPair, Cond.instanceMethod yX2_addPair, Cond.selects RX2 yX2_addPair yX2_addPair, Cond.code yX2_addPair cX2_addPair 3 none, Cond.methodLink RX2 22 yX5_at, Cond.instanceMethod yX5_at, Cond.selects RX5 yX5_at yX5_at, Cond.initialized RX5]
def wsX2_hashLeaf_r2 : List Cond := [Cond.code yX5_at cX5_at 3 (some .long), Cond.fieldLink RX5 7 "LeafSigner$Pairs" "longs" "[J"]
def wsX2_hashLeaf : List Cond := .code yX2_hashLeaf cX2_hashLeaf 6 none :: ((wsX2_hashLeaf_r1 ++ wsX2_hashLeaf_r2) ++ wsX20 ++ wsX50)
def wsX2_startNode : List Cond := .code yX2_startNode cX2_startNode 5 none :: ([.methodLink RX2 42 yX2_start, .instanceMethod yX2_start, .selects RX2 yX2_start yX2_start, .initialized RX2, .code yX2_start cX2_start 3 none, .fieldLink RX2 9 "LeafSigner$Hasher" "a" "J", .fieldLink RX2 15 "LeafSigner$Hasher" "b" "J", .methodLink RX2 28 yX2_add, .instanceMethod yX2_add, .selects RX2 yX2_add yX2_add, .code yX2_add cX2_add 3 none, .methodLink RX2 18 yX2_mixed, .static yX2_mixed, .code yX2_mixed cX2_mixed 6 (some .long), .constantLong RX2 54 (-4658895280553007687), .constantLong RX2 56 (-7723592293110705685)] ++ wsX20)
def wsX2_gave : List Cond := .code yX2_gave cX2_gave 3 (some .boolean) :: ([.fieldLink RX2 9 "LeafSigner$Hasher" "a" "J", .fieldLink RX2 15 "LeafSigner$Hasher" "b" "J", .methodLink RX2 22 yX5_at, .instanceMethod yX5_at, .selects RX5 yX5_at yX5_at, .initialized RX5, .code yX5_at cX5_at 3 (some .long), .fieldLink RX5 7 "LeafSigner$Pairs" "longs" "[J"] ++ wsX20 ++ wsX50)
def wsX3_init : List Cond := .code yX3_init cX3_init 1 none :: ([.methodLink RX3 3 objectInit, .instanceMethod objectInit, .code objectInit ⟨#[0xb1]⟩ 1 none, .fieldLink RX3 9 "LeafSigner$Keys" "height" "I"] ++ wsX30)
def wsX3_renew : List Cond := .code yX3_renew cX3_renew 8 none :: ([.fieldLink RX3 15 "LeafSigner$Keys" "one" "J", .fieldLink RX3 19 "LeafSigner$Keys" "two" "J", .fieldLink RX3 22 "LeafSigner$Keys" "open" "J", .fieldLink RX3 9 "LeafSigner$Keys" "height" "I"] ++ wsX30)
def wsX3_leaves : List Cond := .code yX3_leaves cX3_leaves 1 (some .int) :: ([.fieldLink RX3 9 "LeafSigner$Keys" "height" "I"] ++ wsX30)
def wsX3_hasLeaf : List Cond := .code yX3_hasLeaf cX3_hasLeaf 2 (some .boolean) :: ([.methodLink RX3 25 yX3_leaves, .instanceMethod yX3_leaves, .selects RX3 yX3_leaves yX3_leaves, .initialized RX3, .code yX3_leaves cX3_leaves 1 (some .int), .fieldLink RX3 9 "LeafSigner$Keys" "height" "I"] ++ wsX30)
def wsX4_init : List Cond := .code yX4_init cX4_init 1 none :: ([.methodLink RX4 1 objectInit, .instanceMethod objectInit, .code objectInit ⟨#[0xb1]⟩ 1 none, .arrayClass .long, .fieldLink RX4 9 "LeafSigner$Message" "longs" "[J", .fieldLink RX4 13 "LeafSigner$Message" "size" "I"] ++ wsX40)
def wsX4_isFull : List Cond := .code yX4_isFull cX4_isFull 1 (some .boolean) :: ([.fieldLink RX4 13 "LeafSigner$Message" "size" "I"] ++ wsX40)
def wsX4_append : List Cond := .code yX4_append cX4_append 3 none :: ([.fieldLink RX4 9 "LeafSigner$Message" "longs" "[J", .fieldLink RX4 13 "LeafSigner$Message" "size" "I"] ++ wsX40)
def wsX4_clear : List Cond := .code yX4_clear cX4_clear 1 none :: ([.fieldLink RX4 13 "LeafSigner$Message" "size" "I"] ++ wsX40)
def wsX6_init : List Cond := .code yX6_init cX6_init 1 none :: ([.methodLink RX6 3 objectInit, .instanceMethod objectInit, .code objectInit ⟨#[0xb1]⟩ 1 none, .classLink RX6 9 RX5, .instantiable RX5 1, .initialized RX5, .fieldLink RX6 14 "LeafSigner$Signature" "parts" "LLeafSigner$Pairs;", .fieldLink RX6 20 "LeafSigner$Signature" "leaf" "I", .fieldLink RX6 24 "LeafSigner$Signature" "size" "I", .methodLink RX6 11 yX5_init, .instanceMethod yX5_init, .code yX5_init cX5_init 2 none, .methodLink RX5 1 objectInit, .arrayClass .long, .fieldLink RX5 7 "LeafSigner$Pairs" "longs" "[J"] ++ wsX50 ++ wsX60)
def wsX6_open : List Cond := .code yX6_open cX6_open 3 none :: ([.fieldLink RX6 20 "LeafSigner$Signature" "leaf" "I", .fieldLink RX6 24 "LeafSigner$Signature" "size" "I"] ++ wsX60)
def wsX6_clear : List Cond := .code yX6_clear cX6_clear 1 none :: ([.fieldLink RX6 20 "LeafSigner$Signature" "leaf" "I", .fieldLink RX6 24 "LeafSigner$Signature" "size" "I"] ++ wsX60)
def wsX6_isThere : List Cond := .code yX6_isThere cX6_isThere 1 (some .boolean) :: ([.fieldLink RX6 20 "LeafSigner$Signature" "leaf" "I"] ++ wsX60)
def wsX6_hasPart : List Cond := .code yX6_hasPart cX6_hasPart 2 (some .boolean) :: ([.fieldLink RX6 24 "LeafSigner$Signature" "size" "I"] ++ wsX60)
def wsX7_init : List Cond := .code yX7_init cX7_init 1 none :: ([.methodLink RX7 3 objectInit, .instanceMethod objectInit, .code objectInit ⟨#[0xb1]⟩ 1 none, .classLink RX7 9 RX5, .instantiable RX5 1, .initialized RX5, .fieldLink RX7 14 "LeafSigner$Tree" "nodes" "LLeafSigner$Pairs;", .fieldLink RX7 20 "LeafSigner$Tree" "made" "I", .methodLink RX7 11 yX5_init, .instanceMethod yX5_init, .code yX5_init cX5_init 2 none, .methodLink RX5 1 objectInit, .arrayClass .long, .fieldLink RX5 7 "LeafSigner$Pairs" "longs" "[J"] ++ wsX50 ++ wsX70)
def wsX7_slot : List Cond := .code yX7_slot cX7_slot 3 (some .int) :: ([])
def wsX7_clear : List Cond := .code yX7_clear cX7_clear 1 none :: ([.fieldLink RX7 20 "LeafSigner$Tree" "made" "I"] ++ wsX70)
def wsX7_isMade : List Cond := .code yX7_isMade cX7_isMade 4 (some .boolean) :: ([.fieldLink RX7 20 "LeafSigner$Tree" "made" "I"] ++ wsX70)
def wsX7_hashNode_r1 : List Cond := [Cond.fieldLink RX7 43 "LeafSigner$Keys" "open" "J", Cond.fieldLink RX7 14 "LeafSigner$Tree" "nodes" "LLeafSigner$Pairs;", Cond.fieldLink RX7 24 "LeafSigner$Keys" "height" "I", Cond.methodLink RX7 47 yX2_startNode, Cond.instanceMethod yX2_startNode, Cond.selects RX2 yX2_startNode yX2_startNode, Cond.initialized RX2, Cond.code yX2_startNode cX2_startNode 5 none, Cond.methodLink RX2 42 yX2_start, Cond.instanceMethod yX2_start, Cond.selects RX2 yX2_start yX2_start, Cond.code yX2_start cX2_start 3 none, Cond.fieldLink RX2 9 "LeafSigner$Hasher" "a" "J", Cond.fieldLink RX2 15 "LeafSigner$Hasher" "b" "J", Cond.methodLink RX2 28 yX2_add, Cond.instanceMethod yX2_add, Cond.selects RX2 yX2_add yX2_add, Cond.code yX2_add cX2_add 3 none, Cond.methodLink RX2 18 yX2_mixed, Cond.static yX2_mixed, Cond.code yX2_mixed cX2_mixed 6 (some .long), Cond.constantLong RX2 54 (-4658895280553007687), Cond.constantLong RX2 56 (-7723592293110705685), Cond.methodLink RX7 29 yX7_slot]
def wsX7_hashNode_r2 : List Cond := [Cond.static yX7_slot, Cond.initialized RX7, Cond.code yX7_slot cX7_slot 3 (some .int), Cond.methodLink RX7 51 yX2_addPair, Cond.instanceMethod yX2_addPair, Cond.selects RX2 yX2_addPair yX2_addPair, Cond.code yX2_addPair cX2_addPair 3 none, Cond.methodLink RX2 22 yX5_at, Cond.instanceMethod yX5_at, Cond.selects RX5 yX5_at yX5_at, Cond.initialized RX5, Cond.code yX5_at cX5_at 3 (some .long), Cond.fieldLink RX5 7 "LeafSigner$Pairs" "longs" "[J"]
def wsX7_hashNode : List Cond := .code yX7_hashNode cX7_hashNode 5 none :: ((wsX7_hashNode_r1 ++ wsX7_hashNode_r2) ++ wsX30 ++ wsX70 ++ wsX20 ++ wsX50)
def wsX7_addLeaf_r1 : List Cond := [Cond.fieldLink RX7 14 "LeafSigner$Tree" "nodes" "LLeafSigner$Pairs;", Cond.fieldLink RX7 24 "LeafSigner$Keys" "height" "I", Cond.fieldLink RX7 20 "LeafSigner$Tree" "made" "I", Cond.methodLink RX7 29 yX7_slot, Cond.static yX7_slot, Cond.initialized RX7, Cond.code yX7_slot cX7_slot 3 (some .int), Cond.methodLink RX7 33 yX2_giveTo, Cond.instanceMethod yX2_giveTo, Cond.selects RX2 yX2_giveTo yX2_giveTo, Cond.initialized RX2, Cond.code yX2_giveTo cX2_giveTo 3 none, Cond.fieldLink RX2 9 "LeafSigner$Hasher" "a" "J", Cond.fieldLink RX2 15 "LeafSigner$Hasher" "b" "J", Cond.methodLink RX2 50 yX5_put, Cond.instanceMethod yX5_put, Cond.selects RX5 yX5_put yX5_put, Cond.initialized RX5, Cond.code yX5_put cX5_put 5 none, Cond.fieldLink RX5 7 "LeafSigner$Pairs" "longs" "[J", Cond.methodLink RX7 39 yX7_hashNode, Cond.instanceMethod yX7_hashNode, Cond.selects RX7 yX7_hashNode yX7_hashNode, Cond.code yX7_hashNode cX7_hashNode 5 none]
def wsX7_addLeaf_r2 : List Cond := [Cond.fieldLink RX7 43 "LeafSigner$Keys" "open" "J", Cond.methodLink RX7 47 yX2_startNode, Cond.instanceMethod yX2_startNode, Cond.selects RX2 yX2_startNode yX2_startNode, Cond.code yX2_startNode cX2_startNode 5 none, Cond.methodLink RX2 42 yX2_start, Cond.instanceMethod yX2_start, Cond.selects RX2 yX2_start yX2_start, Cond.code yX2_start cX2_start 3 none, Cond.methodLink RX2 28 yX2_add, Cond.instanceMethod yX2_add, Cond.selects RX2 yX2_add yX2_add, Cond.code yX2_add cX2_add 3 none, Cond.methodLink RX2 18 yX2_mixed, Cond.static yX2_mixed, Cond.code yX2_mixed cX2_mixed 6 (some .long), Cond.constantLong RX2 54 (-4658895280553007687), Cond.constantLong RX2 56 (-7723592293110705685), Cond.methodLink RX7 51 yX2_addPair, Cond.instanceMethod yX2_addPair, Cond.selects RX2 yX2_addPair yX2_addPair, Cond.code yX2_addPair cX2_addPair 3 none, Cond.methodLink RX2 22 yX5_at, Cond.instanceMethod yX5_at]
def wsX7_addLeaf_r3 : List Cond := [Cond.selects RX5 yX5_at yX5_at, Cond.code yX5_at cX5_at 3 (some .long)]
def wsX7_addLeaf : List Cond := .code yX7_addLeaf cX7_addLeaf 6 none :: ((wsX7_addLeaf_r1 ++ (wsX7_addLeaf_r2 ++ wsX7_addLeaf_r3)) ++ wsX70 ++ wsX30 ++ wsX20 ++ wsX50)
def wsX8_init_r1 : List Cond := [Cond.methodLink RX8 1 objectInit, Cond.instanceMethod objectInit, Cond.code objectInit ⟨#[0xb1]⟩ 1 none, Cond.classLink RX8 7 RX3, Cond.instantiable RX3 4, Cond.initialized RX3, Cond.fieldLink RX8 10 "LeafSigner" "keys" "LLeafSigner$Keys;", Cond.classLink RX8 16 RX2, Cond.instantiable RX2 2, Cond.initialized RX2, Cond.fieldLink RX8 19 "LeafSigner" "hasher" "LLeafSigner$Hasher;", Cond.classLink RX8 23 RX0, Cond.instantiable RX0 2, Cond.initialized RX0, Cond.fieldLink RX8 26 "LeafSigner" "chains" "LLeafSigner$Chains;", Cond.classLink RX8 30 RX7, Cond.instantiable RX7 2, Cond.initialized RX7, Cond.fieldLink RX8 33 "LeafSigner" "tree" "LLeafSigner$Tree;", Cond.classLink RX8 37 RX4, Cond.instantiable RX4 2, Cond.initialized RX4, Cond.fieldLink RX8 40 "LeafSigner" "message" "LLeafSigner$Message;", Cond.classLink RX8 44 RX1]
def wsX8_init_r2 : List Cond := [Cond.instantiable RX1 1, Cond.initialized RX1, Cond.fieldLink RX8 47 "LeafSigner" "digits" "LLeafSigner$Digits;", Cond.classLink RX8 51 RX6, Cond.instantiable RX6 3, Cond.initialized RX6, Cond.fieldLink RX8 54 "LeafSigner" "signature" "LLeafSigner$Signature;", Cond.classLink RX8 58 RX5, Cond.instantiable RX5 1, Cond.initialized RX5, Cond.fieldLink RX8 63 "LeafSigner" "told" "LLeafSigner$Pairs;", Cond.fieldLink RX8 67 "LeafSigner" "used" "I", Cond.methodLink RX8 9 yX3_init, Cond.instanceMethod yX3_init, Cond.code yX3_init cX3_init 1 none, Cond.methodLink RX3 3 objectInit, Cond.fieldLink RX3 9 "LeafSigner$Keys" "height" "I", Cond.instanceMethod yX2_init, Cond.code yX2_init cX2_init 1 none, Cond.methodLink RX2 3 objectInit, Cond.methodLink RX8 25 yX0_init, Cond.instanceMethod yX0_init, Cond.code yX0_init cX0_init 1 none, Cond.methodLink RX0 3 objectInit]
def wsX8_init_r3 : List Cond := [Cond.classLink RX0 9 RX5, Cond.fieldLink RX0 14 "LeafSigner$Chains" "ends" "LLeafSigner$Pairs;", Cond.classLink RX0 20 RX2, Cond.fieldLink RX0 23 "LeafSigner$Chains" "hasher" "LLeafSigner$Hasher;", Cond.methodLink RX0 11 yX5_init, Cond.instanceMethod yX5_init, Cond.code yX5_init cX5_init 2 none, Cond.methodLink RX5 1 objectInit, Cond.arrayClass .long, Cond.fieldLink RX5 7 "LeafSigner$Pairs" "longs" "[J", Cond.methodLink RX8 32 yX7_init, Cond.instanceMethod yX7_init, Cond.code yX7_init cX7_init 1 none, Cond.methodLink RX7 3 objectInit, Cond.classLink RX7 9 RX5, Cond.fieldLink RX7 14 "LeafSigner$Tree" "nodes" "LLeafSigner$Pairs;", Cond.fieldLink RX7 20 "LeafSigner$Tree" "made" "I", Cond.methodLink RX7 11 yX5_init, Cond.methodLink RX8 39 yX4_init, Cond.instanceMethod yX4_init, Cond.code yX4_init cX4_init 1 none, Cond.methodLink RX4 1 objectInit, Cond.fieldLink RX4 9 "LeafSigner$Message" "longs" "[J", Cond.fieldLink RX4 13 "LeafSigner$Message" "size" "I"]
def wsX8_init_r4 : List Cond := [Cond.methodLink RX8 46 yX1_init, Cond.instanceMethod yX1_init, Cond.code yX1_init cX1_init 1 none, Cond.methodLink RX1 3 objectInit, Cond.arrayClass .int, Cond.fieldLink RX1 9 "LeafSigner$Digits" "values" "[I", Cond.methodLink RX8 53 yX6_init, Cond.instanceMethod yX6_init, Cond.code yX6_init cX6_init 1 none, Cond.methodLink RX6 3 objectInit, Cond.classLink RX6 9 RX5, Cond.fieldLink RX6 14 "LeafSigner$Signature" "parts" "LLeafSigner$Pairs;", Cond.fieldLink RX6 20 "LeafSigner$Signature" "leaf" "I", Cond.fieldLink RX6 24 "LeafSigner$Signature" "size" "I", Cond.methodLink RX6 11 yX5_init, Cond.methodLink RX8 60 yX5_init]
def wsX8_init : List Cond := .code yX8_init cX8_init 1 none :: ((wsX8_init_r1 ++ (wsX8_init_r2 ++ (wsX8_init_r3 ++ wsX8_init_r4))) ++ wsX30 ++ wsX80 ++ wsX20 ++ wsX00 ++ wsX70 ++ wsX40 ++ wsX10 ++ wsX60 ++ wsX50)
def wsX8_begin_r1 : List Cond := [Cond.fieldLink RX8 10 "LeafSigner" "keys" "LLeafSigner$Keys;", Cond.fieldLink RX8 33 "LeafSigner" "tree" "LLeafSigner$Tree;", Cond.fieldLink RX8 54 "LeafSigner" "signature" "LLeafSigner$Signature;", Cond.fieldLink RX8 67 "LeafSigner" "used" "I", Cond.methodLink RX8 71 yX3_renew, Cond.instanceMethod yX3_renew, Cond.selects RX3 yX3_renew yX3_renew, Cond.initialized RX3, Cond.code yX3_renew cX3_renew 8 none, Cond.fieldLink RX3 15 "LeafSigner$Keys" "one" "J", Cond.fieldLink RX3 19 "LeafSigner$Keys" "two" "J", Cond.fieldLink RX3 22 "LeafSigner$Keys" "open" "J", Cond.fieldLink RX3 9 "LeafSigner$Keys" "height" "I", Cond.methodLink RX8 75 yX7_clear, Cond.instanceMethod yX7_clear, Cond.selects RX7 yX7_clear yX7_clear, Cond.initialized RX7, Cond.code yX7_clear cX7_clear 1 none, Cond.fieldLink RX7 20 "LeafSigner$Tree" "made" "I", Cond.methodLink RX8 78 yX6_clear, Cond.instanceMethod yX6_clear, Cond.selects RX6 yX6_clear yX6_clear, Cond.initialized RX6, Cond.code yX6_clear cX6_clear 1 none]
def wsX8_begin_r2 : List Cond := [Cond.fieldLink RX6 20 "LeafSigner$Signature" "leaf" "I", Cond.fieldLink RX6 24 "LeafSigner$Signature" "size" "I"]
def wsX8_begin : List Cond := .code yX8_begin cX8_begin 8 (some .int) :: ((wsX8_begin_r1 ++ wsX8_begin_r2) ++ wsX80 ++ wsX30 ++ wsX70 ++ wsX60)
def wsX8_grow_r1 : List Cond := [Cond.fieldLink RX8 10 "LeafSigner" "keys" "LLeafSigner$Keys;", Cond.fieldLink RX8 33 "LeafSigner" "tree" "LLeafSigner$Tree;", Cond.fieldLink RX8 83 "LeafSigner$Tree" "made" "I", Cond.methodLink RX8 86 Lib.Math.min.name, Cond.static Lib.Math.min.name, Cond.initialized "java/lang/Math", Cond.code Lib.Math.min.name Lib.Math.min.code 2 (some .int), Cond.fieldLink RX8 26 "LeafSigner" "chains" "LLeafSigner$Chains;", Cond.fieldLink RX8 19 "LeafSigner" "hasher" "LLeafSigner$Hasher;", Cond.fieldLink RX8 96 "LeafSigner$Keys" "open" "J", Cond.fieldLink RX8 100 "LeafSigner$Chains" "ends" "LLeafSigner$Pairs;", Cond.methodLink RX8 79 yX3_leaves, Cond.instanceMethod yX3_leaves, Cond.selects RX3 yX3_leaves yX3_leaves, Cond.initialized RX3, Cond.code yX3_leaves cX3_leaves 1 (some .int), Cond.fieldLink RX3 9 "LeafSigner$Keys" "height" "I", Cond.methodLink RX8 92 yX0_makeEnds, Cond.instanceMethod yX0_makeEnds, Cond.selects RX0 yX0_makeEnds yX0_makeEnds, Cond.initialized RX0, Cond.code yX0_makeEnds cX0_makeEnds 4 none, Cond.fieldLink RX0 14 "LeafSigner$Chains" "ends" "LLeafSigner$Pairs;", Cond.fieldLink RX0 55 "LeafSigner$Keys" "open" "J"]
def wsX8_grow_r2 : List Cond := [Cond.methodLink RX0 51 yX0_makeStart, Cond.instanceMethod yX0_makeStart, Cond.selects RX0 yX0_makeStart yX0_makeStart, Cond.code yX0_makeStart cX0_makeStart 5 none, Cond.fieldLink RX0 23 "LeafSigner$Chains" "hasher" "LLeafSigner$Hasher;", Cond.fieldLink RX0 31 "LeafSigner$Keys" "one" "J", Cond.fieldLink RX0 41 "LeafSigner$Keys" "two" "J", Cond.methodLink RX0 27 yX2_start, Cond.instanceMethod yX2_start, Cond.selects RX2 yX2_start yX2_start, Cond.initialized RX2, Cond.code yX2_start cX2_start 3 none, Cond.fieldLink RX2 9 "LeafSigner$Hasher" "a" "J", Cond.fieldLink RX2 15 "LeafSigner$Hasher" "b" "J", Cond.methodLink RX0 37 yX2_add, Cond.instanceMethod yX2_add, Cond.selects RX2 yX2_add yX2_add, Cond.code yX2_add cX2_add 3 none, Cond.methodLink RX2 18 yX2_mixed, Cond.static yX2_mixed, Cond.code yX2_mixed cX2_mixed 6 (some .long), Cond.constantLong RX2 54 (-4658895280553007687), Cond.constantLong RX2 56 (-7723592293110705685), Cond.methodLink RX0 44 yX2_giveTo]
def wsX8_grow_r3 : List Cond := [Cond.instanceMethod yX2_giveTo, Cond.selects RX2 yX2_giveTo yX2_giveTo, Cond.code yX2_giveTo cX2_giveTo 3 none, Cond.methodLink RX2 50 yX5_put, Cond.instanceMethod yX5_put, Cond.selects RX5 yX5_put yX5_put, Cond.initialized RX5, Cond.code yX5_put cX5_put 5 none, Cond.fieldLink RX5 7 "LeafSigner$Pairs" "longs" "[J", Cond.methodLink RX0 58 yX0_carry, Cond.instanceMethod yX0_carry, Cond.selects RX0 yX0_carry yX0_carry, Cond.code yX0_carry cX0_carry 9 none, Cond.methodLink RX0 48 yX2_addPair, Cond.instanceMethod yX2_addPair, Cond.selects RX2 yX2_addPair yX2_addPair, Cond.code yX2_addPair cX2_addPair 3 none, Cond.methodLink RX2 22 yX5_at, Cond.instanceMethod yX5_at, Cond.selects RX5 yX5_at yX5_at, Cond.code yX5_at cX5_at 3 (some .long), Cond.methodLink RX2 28 yX2_add, Cond.methodLink RX8 103 yX2_hashLeaf, Cond.instanceMethod yX2_hashLeaf]
def wsX8_grow_r4 : List Cond := [Cond.selects RX2 yX2_hashLeaf yX2_hashLeaf, Cond.code yX2_hashLeaf cX2_hashLeaf 6 none, Cond.methodLink RX2 42 yX2_start, Cond.methodLink RX2 46 yX2_addPair, Cond.methodLink RX8 107 yX7_addLeaf, Cond.instanceMethod yX7_addLeaf, Cond.selects RX7 yX7_addLeaf yX7_addLeaf, Cond.initialized RX7, Cond.code yX7_addLeaf cX7_addLeaf 6 none, Cond.fieldLink RX7 14 "LeafSigner$Tree" "nodes" "LLeafSigner$Pairs;", Cond.fieldLink RX7 24 "LeafSigner$Keys" "height" "I", Cond.fieldLink RX7 20 "LeafSigner$Tree" "made" "I", Cond.methodLink RX7 29 yX7_slot, Cond.static yX7_slot, Cond.code yX7_slot cX7_slot 3 (some .int), Cond.methodLink RX7 33 yX2_giveTo, Cond.methodLink RX7 39 yX7_hashNode, Cond.instanceMethod yX7_hashNode, Cond.selects RX7 yX7_hashNode yX7_hashNode, Cond.code yX7_hashNode cX7_hashNode 5 none, Cond.fieldLink RX7 43 "LeafSigner$Keys" "open" "J", Cond.methodLink RX7 47 yX2_startNode, Cond.instanceMethod yX2_startNode, Cond.selects RX2 yX2_startNode yX2_startNode]
def wsX8_grow_r5 : List Cond := [Cond.code yX2_startNode cX2_startNode 5 none, Cond.methodLink RX7 51 yX2_addPair]
def wsX8_grow : List Cond := .code yX8_grow cX8_grow 5 (some .int) :: ((wsX8_grow_r1 ++ (wsX8_grow_r2 ++ (wsX8_grow_r3 ++ (wsX8_grow_r4 ++ wsX8_grow_r5)))) ++ wsX80 ++ wsX70 ++ wsX30 ++ wsX00 ++ wsX20 ++ wsX50)
def wsX8_isHalf : List Cond := .code yX8_isHalf cX8_isHalf 1 (some .boolean) :: ([])
def wsX8_node : List Cond := .code yX8_node cX8_node 4 (some .long) :: ([.fieldLink RX8 33 "LeafSigner" "tree" "LLeafSigner$Tree;", .fieldLink RX8 10 "LeafSigner" "keys" "LLeafSigner$Keys;", .fieldLink RX8 115 "LeafSigner$Keys" "height" "I", .fieldLink RX8 122 "LeafSigner$Tree" "nodes" "LLeafSigner$Pairs;", .methodLink RX8 111 yX8_isHalf, .static yX8_isHalf, .initialized RX8, .code yX8_isHalf cX8_isHalf 1 (some .boolean), .methodLink RX8 118 yX7_isMade, .instanceMethod yX7_isMade, .selects RX7 yX7_isMade yX7_isMade, .initialized RX7, .code yX7_isMade cX7_isMade 4 (some .boolean), .fieldLink RX7 20 "LeafSigner$Tree" "made" "I", .methodLink RX8 125 yX7_slot, .static yX7_slot, .code yX7_slot cX7_slot 3 (some .int), .methodLink RX8 129 yX5_at, .instanceMethod yX5_at, .selects RX5 yX5_at yX5_at, .initialized RX5, .code yX5_at cX5_at 3 (some .long), .fieldLink RX5 7 "LeafSigner$Pairs" "longs" "[J"] ++ wsX80 ++ wsX30 ++ wsX70 ++ wsX50)
def wsX8_feed : List Cond := .code yX8_feed cX8_feed 3 (some .int) :: ([.fieldLink RX8 40 "LeafSigner" "message" "LLeafSigner$Message;", .fieldLink RX8 141 "LeafSigner$Message" "size" "I", .methodLink RX8 133 yX4_isFull, .instanceMethod yX4_isFull, .selects RX4 yX4_isFull yX4_isFull, .initialized RX4, .code yX4_isFull cX4_isFull 1 (some .boolean), .fieldLink RX4 13 "LeafSigner$Message" "size" "I", .methodLink RX8 137 yX4_append, .instanceMethod yX4_append, .selects RX4 yX4_append yX4_append, .code yX4_append cX4_append 3 none, .fieldLink RX4 9 "LeafSigner$Message" "longs" "[J"] ++ wsX80 ++ wsX40)
def wsX8_reset : List Cond := .code yX8_reset cX8_reset 2 (some .int) :: ([.fieldLink RX8 40 "LeafSigner" "message" "LLeafSigner$Message;", .fieldLink RX8 141 "LeafSigner$Message" "size" "I", .methodLink RX8 144 yX4_clear, .instanceMethod yX4_clear, .selects RX4 yX4_clear yX4_clear, .initialized RX4, .code yX4_clear cX4_clear 1 none, .fieldLink RX4 13 "LeafSigner$Message" "size" "I"] ++ wsX80 ++ wsX40)
def wsX8_isRootMade : List Cond := .code yX8_isRootMade cX8_isRootMade 1 (some .boolean) :: ([.fieldLink RX8 33 "LeafSigner" "tree" "LLeafSigner$Tree;", .fieldLink RX8 10 "LeafSigner" "keys" "LLeafSigner$Keys;", .fieldLink RX8 115 "LeafSigner$Keys" "height" "I", .methodLink RX8 118 yX7_isMade, .instanceMethod yX7_isMade, .selects RX7 yX7_isMade yX7_isMade, .initialized RX7, .code yX7_isMade cX7_isMade 4 (some .boolean), .fieldLink RX7 20 "LeafSigner$Tree" "made" "I"] ++ wsX80 ++ wsX30 ++ wsX70)
def wsX8_readDigits_r1 : List Cond := [Cond.fieldLink RX8 19 "LeafSigner" "hasher" "LLeafSigner$Hasher;", Cond.fieldLink RX8 40 "LeafSigner" "message" "LLeafSigner$Message;", Cond.fieldLink RX8 141 "LeafSigner$Message" "size" "I", Cond.fieldLink RX8 10 "LeafSigner" "keys" "LLeafSigner$Keys;", Cond.fieldLink RX8 96 "LeafSigner$Keys" "open" "J", Cond.fieldLink RX8 47 "LeafSigner" "digits" "LLeafSigner$Digits;", Cond.fieldLink RX8 207 "LeafSigner$Hasher" "a" "J", Cond.fieldLink RX8 210 "LeafSigner$Hasher" "b" "J", Cond.methodLink RX8 200 yX2_start, Cond.instanceMethod yX2_start, Cond.selects RX2 yX2_start yX2_start, Cond.initialized RX2, Cond.code yX2_start cX2_start 3 none, Cond.fieldLink RX2 9 "LeafSigner$Hasher" "a" "J", Cond.fieldLink RX2 15 "LeafSigner$Hasher" "b" "J", Cond.methodLink RX8 218 yX2_add, Cond.instanceMethod yX2_add, Cond.selects RX2 yX2_add yX2_add, Cond.code yX2_add cX2_add 3 none, Cond.methodLink RX2 18 yX2_mixed, Cond.static yX2_mixed, Cond.code yX2_mixed cX2_mixed 6 (some .long), Cond.constantLong RX2 54 (-4658895280553007687), Cond.constantLong RX2 56 (-7723592293110705685)]
def wsX8_readDigits_r2 : List Cond := [Cond.methodLink RX8 221 yX2_addPair, Cond.instanceMethod yX2_addPair, Cond.selects RX2 yX2_addPair yX2_addPair, Cond.code yX2_addPair cX2_addPair 3 none, Cond.methodLink RX2 22 yX5_at, Cond.instanceMethod yX5_at, Cond.selects RX5 yX5_at yX5_at, Cond.initialized RX5, Cond.code yX5_at cX5_at 3 (some .long), Cond.fieldLink RX5 7 "LeafSigner$Pairs" "longs" "[J", Cond.methodLink RX2 28 yX2_add, Cond.methodLink RX8 203 yX2_addMessage, Cond.instanceMethod yX2_addMessage, Cond.selects RX2 yX2_addMessage yX2_addMessage, Cond.code yX2_addMessage cX2_addMessage 3 none, Cond.fieldLink RX2 32 "LeafSigner$Message" "size" "I", Cond.fieldLink RX2 38 "LeafSigner$Message" "longs" "[J", Cond.methodLink RX8 225 yX1_read, Cond.instanceMethod yX1_read, Cond.selects RX1 yX1_read yX1_read, Cond.initialized RX1, Cond.code yX1_read cX1_read 9 none, Cond.fieldLink RX1 9 "LeafSigner$Digits" "values" "[I", Cond.methodLink RX1 15 yX1_fourBits]
def wsX8_readDigits_r3 : List Cond := [Cond.static yX1_fourBits, Cond.code yX1_fourBits cX1_fourBits 3 (some .int)]
def wsX8_readDigits : List Cond := .code yX8_readDigits cX8_readDigits 4 none :: ((wsX8_readDigits_r1 ++ (wsX8_readDigits_r2 ++ wsX8_readDigits_r3)) ++ wsX80 ++ wsX40 ++ wsX30 ++ wsX20 ++ wsX50 ++ wsX10)
def wsX8_digit_r1 : List Cond := [Cond.fieldLink RX8 10 "LeafSigner" "keys" "LLeafSigner$Keys;", Cond.fieldLink RX8 33 "LeafSigner" "tree" "LLeafSigner$Tree;", Cond.fieldLink RX8 122 "LeafSigner$Tree" "nodes" "LLeafSigner$Pairs;", Cond.fieldLink RX8 47 "LeafSigner" "digits" "LLeafSigner$Digits;", Cond.fieldLink RX8 155 "LeafSigner$Digits" "values" "[I", Cond.methodLink RX8 145 yX3_hasLeaf, Cond.instanceMethod yX3_hasLeaf, Cond.selects RX3 yX3_hasLeaf yX3_hasLeaf, Cond.initialized RX3, Cond.code yX3_hasLeaf cX3_hasLeaf 2 (some .boolean), Cond.methodLink RX3 25 yX3_leaves, Cond.instanceMethod yX3_leaves, Cond.selects RX3 yX3_leaves yX3_leaves, Cond.code yX3_leaves cX3_leaves 1 (some .int), Cond.fieldLink RX3 9 "LeafSigner$Keys" "height" "I", Cond.methodLink RX8 148 yX8_isRootMade, Cond.instanceMethod yX8_isRootMade, Cond.selects RX8 yX8_isRootMade yX8_isRootMade, Cond.initialized RX8, Cond.code yX8_isRootMade cX8_isRootMade 1 (some .boolean), Cond.fieldLink RX8 115 "LeafSigner$Keys" "height" "I", Cond.methodLink RX8 118 yX7_isMade, Cond.instanceMethod yX7_isMade, Cond.selects RX7 yX7_isMade yX7_isMade]
def wsX8_digit_r2 : List Cond := [Cond.initialized RX7, Cond.code yX7_isMade cX7_isMade 4 (some .boolean), Cond.fieldLink RX7 20 "LeafSigner$Tree" "made" "I", Cond.methodLink RX8 151 yX8_readDigits, Cond.instanceMethod yX8_readDigits, Cond.selects RX8 yX8_readDigits yX8_readDigits, Cond.code yX8_readDigits cX8_readDigits 4 none, Cond.fieldLink RX8 19 "LeafSigner" "hasher" "LLeafSigner$Hasher;", Cond.fieldLink RX8 40 "LeafSigner" "message" "LLeafSigner$Message;", Cond.fieldLink RX8 141 "LeafSigner$Message" "size" "I", Cond.fieldLink RX8 96 "LeafSigner$Keys" "open" "J", Cond.fieldLink RX8 207 "LeafSigner$Hasher" "a" "J", Cond.fieldLink RX8 210 "LeafSigner$Hasher" "b" "J", Cond.methodLink RX8 200 yX2_start, Cond.instanceMethod yX2_start, Cond.selects RX2 yX2_start yX2_start, Cond.initialized RX2, Cond.code yX2_start cX2_start 3 none, Cond.fieldLink RX2 9 "LeafSigner$Hasher" "a" "J", Cond.fieldLink RX2 15 "LeafSigner$Hasher" "b" "J", Cond.methodLink RX8 218 yX2_add, Cond.instanceMethod yX2_add, Cond.selects RX2 yX2_add yX2_add, Cond.code yX2_add cX2_add 3 none]
def wsX8_digit_r3 : List Cond := [Cond.methodLink RX2 18 yX2_mixed, Cond.static yX2_mixed, Cond.code yX2_mixed cX2_mixed 6 (some .long), Cond.constantLong RX2 54 (-4658895280553007687), Cond.constantLong RX2 56 (-7723592293110705685), Cond.methodLink RX8 221 yX2_addPair, Cond.instanceMethod yX2_addPair, Cond.selects RX2 yX2_addPair yX2_addPair, Cond.code yX2_addPair cX2_addPair 3 none, Cond.methodLink RX2 22 yX5_at, Cond.instanceMethod yX5_at, Cond.selects RX5 yX5_at yX5_at, Cond.initialized RX5, Cond.code yX5_at cX5_at 3 (some .long), Cond.fieldLink RX5 7 "LeafSigner$Pairs" "longs" "[J", Cond.methodLink RX2 28 yX2_add, Cond.methodLink RX8 203 yX2_addMessage, Cond.instanceMethod yX2_addMessage, Cond.selects RX2 yX2_addMessage yX2_addMessage, Cond.code yX2_addMessage cX2_addMessage 3 none, Cond.fieldLink RX2 32 "LeafSigner$Message" "size" "I", Cond.fieldLink RX2 38 "LeafSigner$Message" "longs" "[J", Cond.methodLink RX8 225 yX1_read, Cond.instanceMethod yX1_read]
def wsX8_digit_r4 : List Cond := [Cond.selects RX1 yX1_read yX1_read, Cond.initialized RX1, Cond.code yX1_read cX1_read 9 none, Cond.fieldLink RX1 9 "LeafSigner$Digits" "values" "[I", Cond.methodLink RX1 15 yX1_fourBits, Cond.static yX1_fourBits, Cond.code yX1_fourBits cX1_fourBits 3 (some .int)]
def wsX8_digit : List Cond := .code yX8_digit cX8_digit 3 (some .int) :: ((wsX8_digit_r1 ++ (wsX8_digit_r2 ++ (wsX8_digit_r3 ++ wsX8_digit_r4))) ++ wsX80 ++ wsX70 ++ wsX10 ++ wsX30 ++ wsX40 ++ wsX20 ++ wsX50)
def wsX8_sign_r1 : List Cond := [Cond.fieldLink RX8 67 "LeafSigner" "used" "I", Cond.fieldLink RX8 10 "LeafSigner" "keys" "LLeafSigner$Keys;", Cond.fieldLink RX8 33 "LeafSigner" "tree" "LLeafSigner$Tree;", Cond.fieldLink RX8 122 "LeafSigner$Tree" "nodes" "LLeafSigner$Pairs;", Cond.fieldLink RX8 54 "LeafSigner" "signature" "LLeafSigner$Signature;", Cond.fieldLink RX8 115 "LeafSigner$Keys" "height" "I", Cond.fieldLink RX8 26 "LeafSigner" "chains" "LLeafSigner$Chains;", Cond.fieldLink RX8 162 "LeafSigner$Signature" "parts" "LLeafSigner$Pairs;", Cond.fieldLink RX8 96 "LeafSigner$Keys" "open" "J", Cond.fieldLink RX8 47 "LeafSigner" "digits" "LLeafSigner$Digits;", Cond.fieldLink RX8 155 "LeafSigner$Digits" "values" "[I", Cond.methodLink RX8 148 yX8_isRootMade, Cond.instanceMethod yX8_isRootMade, Cond.selects RX8 yX8_isRootMade yX8_isRootMade, Cond.initialized RX8, Cond.code yX8_isRootMade cX8_isRootMade 1 (some .boolean), Cond.methodLink RX8 118 yX7_isMade, Cond.instanceMethod yX7_isMade, Cond.selects RX7 yX7_isMade yX7_isMade, Cond.initialized RX7, Cond.code yX7_isMade cX7_isMade 4 (some .boolean), Cond.fieldLink RX7 20 "LeafSigner$Tree" "made" "I", Cond.methodLink RX8 79 yX3_leaves, Cond.instanceMethod yX3_leaves]
def wsX8_sign_r2 : List Cond := [Cond.selects RX3 yX3_leaves yX3_leaves, Cond.initialized RX3, Cond.code yX3_leaves cX3_leaves 1 (some .int), Cond.fieldLink RX3 9 "LeafSigner$Keys" "height" "I", Cond.methodLink RX8 151 yX8_readDigits, Cond.instanceMethod yX8_readDigits, Cond.selects RX8 yX8_readDigits yX8_readDigits, Cond.code yX8_readDigits cX8_readDigits 4 none, Cond.fieldLink RX8 19 "LeafSigner" "hasher" "LLeafSigner$Hasher;", Cond.fieldLink RX8 40 "LeafSigner" "message" "LLeafSigner$Message;", Cond.fieldLink RX8 141 "LeafSigner$Message" "size" "I", Cond.fieldLink RX8 207 "LeafSigner$Hasher" "a" "J", Cond.fieldLink RX8 210 "LeafSigner$Hasher" "b" "J", Cond.methodLink RX8 200 yX2_start, Cond.instanceMethod yX2_start, Cond.selects RX2 yX2_start yX2_start, Cond.initialized RX2, Cond.code yX2_start cX2_start 3 none, Cond.fieldLink RX2 9 "LeafSigner$Hasher" "a" "J", Cond.fieldLink RX2 15 "LeafSigner$Hasher" "b" "J", Cond.methodLink RX8 218 yX2_add, Cond.instanceMethod yX2_add, Cond.selects RX2 yX2_add yX2_add, Cond.code yX2_add cX2_add 3 none]
def wsX8_sign_r3 : List Cond := [Cond.methodLink RX2 18 yX2_mixed, Cond.static yX2_mixed, Cond.code yX2_mixed cX2_mixed 6 (some .long), Cond.constantLong RX2 54 (-4658895280553007687), Cond.constantLong RX2 56 (-7723592293110705685), Cond.methodLink RX8 221 yX2_addPair, Cond.instanceMethod yX2_addPair, Cond.selects RX2 yX2_addPair yX2_addPair, Cond.code yX2_addPair cX2_addPair 3 none, Cond.methodLink RX2 22 yX5_at, Cond.instanceMethod yX5_at, Cond.selects RX5 yX5_at yX5_at, Cond.initialized RX5, Cond.code yX5_at cX5_at 3 (some .long), Cond.fieldLink RX5 7 "LeafSigner$Pairs" "longs" "[J", Cond.methodLink RX2 28 yX2_add, Cond.methodLink RX8 203 yX2_addMessage, Cond.instanceMethod yX2_addMessage, Cond.selects RX2 yX2_addMessage yX2_addMessage, Cond.code yX2_addMessage cX2_addMessage 3 none, Cond.fieldLink RX2 32 "LeafSigner$Message" "size" "I", Cond.fieldLink RX2 38 "LeafSigner$Message" "longs" "[J", Cond.methodLink RX8 225 yX1_read, Cond.instanceMethod yX1_read]
def wsX8_sign_r4 : List Cond := [Cond.selects RX1 yX1_read yX1_read, Cond.initialized RX1, Cond.code yX1_read cX1_read 9 none, Cond.fieldLink RX1 9 "LeafSigner$Digits" "values" "[I", Cond.methodLink RX1 15 yX1_fourBits, Cond.static yX1_fourBits, Cond.code yX1_fourBits cX1_fourBits 3 (some .int), Cond.methodLink RX8 159 yX6_open, Cond.instanceMethod yX6_open, Cond.selects RX6 yX6_open yX6_open, Cond.initialized RX6, Cond.code yX6_open cX6_open 3 none, Cond.fieldLink RX6 20 "LeafSigner$Signature" "leaf" "I", Cond.fieldLink RX6 24 "LeafSigner$Signature" "size" "I", Cond.methodLink RX8 165 yX0_makeStart, Cond.instanceMethod yX0_makeStart, Cond.selects RX0 yX0_makeStart yX0_makeStart, Cond.initialized RX0, Cond.code yX0_makeStart cX0_makeStart 5 none, Cond.fieldLink RX0 23 "LeafSigner$Chains" "hasher" "LLeafSigner$Hasher;", Cond.fieldLink RX0 31 "LeafSigner$Keys" "one" "J", Cond.fieldLink RX0 41 "LeafSigner$Keys" "two" "J", Cond.methodLink RX0 27 yX2_start, Cond.methodLink RX0 37 yX2_add]
def wsX8_sign_r5 : List Cond := [Cond.methodLink RX0 44 yX2_giveTo, Cond.instanceMethod yX2_giveTo, Cond.selects RX2 yX2_giveTo yX2_giveTo, Cond.code yX2_giveTo cX2_giveTo 3 none, Cond.methodLink RX2 50 yX5_put, Cond.instanceMethod yX5_put, Cond.selects RX5 yX5_put yX5_put, Cond.code yX5_put cX5_put 5 none, Cond.methodLink RX8 169 yX0_carry, Cond.instanceMethod yX0_carry, Cond.selects RX0 yX0_carry yX0_carry, Cond.code yX0_carry cX0_carry 9 none, Cond.methodLink RX0 48 yX2_addPair, Cond.methodLink RX8 125 yX7_slot, Cond.static yX7_slot, Cond.code yX7_slot cX7_slot 3 (some .int), Cond.methodLink RX8 173 yX5_copy, Cond.instanceMethod yX5_copy, Cond.selects RX5 yX5_copy yX5_copy, Cond.code yX5_copy cX5_copy 4 none, Cond.methodLink RX5 13 yX5_at, Cond.methodLink RX5 17 yX5_put]
def wsX8_sign : List Cond := .code yX8_sign cX8_sign 4 (some .int) :: ((wsX8_sign_r1 ++ (wsX8_sign_r2 ++ (wsX8_sign_r3 ++ (wsX8_sign_r4 ++ wsX8_sign_r5)))) ++ wsX80 ++ wsX70 ++ wsX30 ++ wsX60 ++ wsX10 ++ wsX40 ++ wsX20 ++ wsX50 ++ wsX00)
def wsX8_leaf : List Cond := .code yX8_leaf cX8_leaf 1 (some .int) :: ([.fieldLink RX8 54 "LeafSigner" "signature" "LLeafSigner$Signature;", .fieldLink RX8 176 "LeafSigner$Signature" "leaf" "I"] ++ wsX80 ++ wsX60)
def wsX8_part : List Cond := .code yX8_part cX8_part 3 (some .long) :: ([.fieldLink RX8 54 "LeafSigner" "signature" "LLeafSigner$Signature;", .fieldLink RX8 162 "LeafSigner$Signature" "parts" "LLeafSigner$Pairs;", .methodLink RX8 111 yX8_isHalf, .static yX8_isHalf, .initialized RX8, .code yX8_isHalf cX8_isHalf 1 (some .boolean), .methodLink RX8 179 yX6_hasPart, .instanceMethod yX6_hasPart, .selects RX6 yX6_hasPart yX6_hasPart, .initialized RX6, .code yX6_hasPart cX6_hasPart 2 (some .boolean), .fieldLink RX6 24 "LeafSigner$Signature" "size" "I", .methodLink RX8 129 yX5_at, .instanceMethod yX5_at, .selects RX5 yX5_at yX5_at, .initialized RX5, .code yX5_at cX5_at 3 (some .long), .fieldLink RX5 7 "LeafSigner$Pairs" "longs" "[J"] ++ wsX80 ++ wsX60 ++ wsX50)
def wsX8_setLeaf : List Cond := .code yX8_setLeaf cX8_setLeaf 2 (some .int) :: ([.fieldLink RX8 54 "LeafSigner" "signature" "LLeafSigner$Signature;", .fieldLink RX8 176 "LeafSigner$Signature" "leaf" "I", .methodLink RX8 182 yX6_isThere, .instanceMethod yX6_isThere, .selects RX6 yX6_isThere yX6_isThere, .initialized RX6, .code yX6_isThere cX6_isThere 1 (some .boolean), .fieldLink RX6 20 "LeafSigner$Signature" "leaf" "I"] ++ wsX80 ++ wsX60)
def wsX8_setPart : List Cond := .code yX8_setPart cX8_setPart 5 (some .int) :: ([.fieldLink RX8 54 "LeafSigner" "signature" "LLeafSigner$Signature;", .fieldLink RX8 162 "LeafSigner$Signature" "parts" "LLeafSigner$Pairs;", .methodLink RX8 111 yX8_isHalf, .static yX8_isHalf, .initialized RX8, .code yX8_isHalf cX8_isHalf 1 (some .boolean), .methodLink RX8 179 yX6_hasPart, .instanceMethod yX6_hasPart, .selects RX6 yX6_hasPart yX6_hasPart, .initialized RX6, .code yX6_hasPart cX6_hasPart 2 (some .boolean), .fieldLink RX6 24 "LeafSigner$Signature" "size" "I", .methodLink RX8 185 yX5_put, .instanceMethod yX5_put, .selects RX5 yX5_put yX5_put, .initialized RX5, .code yX5_put cX5_put 5 none, .fieldLink RX5 7 "LeafSigner$Pairs" "longs" "[J"] ++ wsX80 ++ wsX60 ++ wsX50)
def wsX8_tell : List Cond := .code yX8_tell cX8_tell 4 (some .int) :: ([.fieldLink RX8 63 "LeafSigner" "told" "LLeafSigner$Pairs;", .methodLink RX8 111 yX8_isHalf, .static yX8_isHalf, .initialized RX8, .code yX8_isHalf cX8_isHalf 1 (some .boolean), .methodLink RX8 185 yX5_put, .instanceMethod yX5_put, .selects RX5 yX5_put yX5_put, .initialized RX5, .code yX5_put cX5_put 5 none, .fieldLink RX5 7 "LeafSigner$Pairs" "longs" "[J"] ++ wsX80 ++ wsX50)
def wsX8_climbToRoot_r1 : List Cond := [Cond.fieldLink RX8 10 "LeafSigner" "keys" "LLeafSigner$Keys;", Cond.fieldLink RX8 115 "LeafSigner$Keys" "height" "I", Cond.fieldLink RX8 19 "LeafSigner" "hasher" "LLeafSigner$Hasher;", Cond.fieldLink RX8 207 "LeafSigner$Hasher" "a" "J", Cond.fieldLink RX8 210 "LeafSigner$Hasher" "b" "J", Cond.fieldLink RX8 54 "LeafSigner" "signature" "LLeafSigner$Signature;", Cond.fieldLink RX8 176 "LeafSigner$Signature" "leaf" "I", Cond.fieldLink RX8 96 "LeafSigner$Keys" "open" "J", Cond.fieldLink RX8 162 "LeafSigner$Signature" "parts" "LLeafSigner$Pairs;", Cond.methodLink RX8 229 yX2_startNode, Cond.instanceMethod yX2_startNode, Cond.selects RX2 yX2_startNode yX2_startNode, Cond.initialized RX2, Cond.code yX2_startNode cX2_startNode 5 none, Cond.methodLink RX2 42 yX2_start, Cond.instanceMethod yX2_start, Cond.selects RX2 yX2_start yX2_start, Cond.code yX2_start cX2_start 3 none, Cond.fieldLink RX2 9 "LeafSigner$Hasher" "a" "J", Cond.fieldLink RX2 15 "LeafSigner$Hasher" "b" "J", Cond.methodLink RX2 28 yX2_add, Cond.instanceMethod yX2_add, Cond.selects RX2 yX2_add yX2_add, Cond.code yX2_add cX2_add 3 none]
def wsX8_climbToRoot_r2 : List Cond := [Cond.methodLink RX2 18 yX2_mixed, Cond.static yX2_mixed, Cond.code yX2_mixed cX2_mixed 6 (some .long), Cond.constantLong RX2 54 (-4658895280553007687), Cond.constantLong RX2 56 (-7723592293110705685), Cond.methodLink RX8 218 yX2_add, Cond.methodLink RX8 221 yX2_addPair, Cond.instanceMethod yX2_addPair, Cond.selects RX2 yX2_addPair yX2_addPair, Cond.code yX2_addPair cX2_addPair 3 none, Cond.methodLink RX2 22 yX5_at, Cond.instanceMethod yX5_at, Cond.selects RX5 yX5_at yX5_at, Cond.initialized RX5, Cond.code yX5_at cX5_at 3 (some .long), Cond.fieldLink RX5 7 "LeafSigner$Pairs" "longs" "[J"]
def wsX8_climbToRoot : List Cond := .code yX8_climbToRoot cX8_climbToRoot 8 none :: ((wsX8_climbToRoot_r1 ++ wsX8_climbToRoot_r2) ++ wsX80 ++ wsX30 ++ wsX20 ++ wsX60 ++ wsX50)
def wsX8_verify_r1 : List Cond := [Cond.fieldLink RX8 54 "LeafSigner" "signature" "LLeafSigner$Signature;", Cond.fieldLink RX8 10 "LeafSigner" "keys" "LLeafSigner$Keys;", Cond.fieldLink RX8 176 "LeafSigner$Signature" "leaf" "I", Cond.fieldLink RX8 63 "LeafSigner" "told" "LLeafSigner$Pairs;", Cond.fieldLink RX8 26 "LeafSigner" "chains" "LLeafSigner$Chains;", Cond.fieldLink RX8 96 "LeafSigner$Keys" "open" "J", Cond.fieldLink RX8 47 "LeafSigner" "digits" "LLeafSigner$Digits;", Cond.fieldLink RX8 19 "LeafSigner" "hasher" "LLeafSigner$Hasher;", Cond.fieldLink RX8 100 "LeafSigner$Chains" "ends" "LLeafSigner$Pairs;", Cond.methodLink RX8 182 yX6_isThere, Cond.instanceMethod yX6_isThere, Cond.selects RX6 yX6_isThere yX6_isThere, Cond.initialized RX6, Cond.code yX6_isThere cX6_isThere 1 (some .boolean), Cond.fieldLink RX6 20 "LeafSigner$Signature" "leaf" "I", Cond.methodLink RX8 145 yX3_hasLeaf, Cond.instanceMethod yX3_hasLeaf, Cond.selects RX3 yX3_hasLeaf yX3_hasLeaf, Cond.initialized RX3, Cond.code yX3_hasLeaf cX3_hasLeaf 2 (some .boolean), Cond.methodLink RX3 25 yX3_leaves, Cond.instanceMethod yX3_leaves, Cond.selects RX3 yX3_leaves yX3_leaves, Cond.code yX3_leaves cX3_leaves 1 (some .int)]
def wsX8_verify_r2 : List Cond := [Cond.fieldLink RX3 9 "LeafSigner$Keys" "height" "I", Cond.methodLink RX8 151 yX8_readDigits, Cond.instanceMethod yX8_readDigits, Cond.selects RX8 yX8_readDigits yX8_readDigits, Cond.initialized RX8, Cond.code yX8_readDigits cX8_readDigits 4 none, Cond.fieldLink RX8 40 "LeafSigner" "message" "LLeafSigner$Message;", Cond.fieldLink RX8 141 "LeafSigner$Message" "size" "I", Cond.fieldLink RX8 207 "LeafSigner$Hasher" "a" "J", Cond.fieldLink RX8 210 "LeafSigner$Hasher" "b" "J", Cond.methodLink RX8 200 yX2_start, Cond.instanceMethod yX2_start, Cond.selects RX2 yX2_start yX2_start, Cond.initialized RX2, Cond.code yX2_start cX2_start 3 none, Cond.fieldLink RX2 9 "LeafSigner$Hasher" "a" "J", Cond.fieldLink RX2 15 "LeafSigner$Hasher" "b" "J", Cond.methodLink RX8 218 yX2_add, Cond.instanceMethod yX2_add, Cond.selects RX2 yX2_add yX2_add, Cond.code yX2_add cX2_add 3 none, Cond.methodLink RX2 18 yX2_mixed, Cond.static yX2_mixed, Cond.code yX2_mixed cX2_mixed 6 (some .long)]
def wsX8_verify_r3 : List Cond := [Cond.constantLong RX2 54 (-4658895280553007687), Cond.constantLong RX2 56 (-7723592293110705685), Cond.methodLink RX8 221 yX2_addPair, Cond.instanceMethod yX2_addPair, Cond.selects RX2 yX2_addPair yX2_addPair, Cond.code yX2_addPair cX2_addPair 3 none, Cond.methodLink RX2 22 yX5_at, Cond.instanceMethod yX5_at, Cond.selects RX5 yX5_at yX5_at, Cond.initialized RX5, Cond.code yX5_at cX5_at 3 (some .long), Cond.fieldLink RX5 7 "LeafSigner$Pairs" "longs" "[J", Cond.methodLink RX2 28 yX2_add, Cond.methodLink RX8 203 yX2_addMessage, Cond.instanceMethod yX2_addMessage, Cond.selects RX2 yX2_addMessage yX2_addMessage, Cond.code yX2_addMessage cX2_addMessage 3 none, Cond.fieldLink RX2 32 "LeafSigner$Message" "size" "I", Cond.fieldLink RX2 38 "LeafSigner$Message" "longs" "[J", Cond.methodLink RX8 225 yX1_read, Cond.instanceMethod yX1_read, Cond.selects RX1 yX1_read yX1_read, Cond.initialized RX1, Cond.code yX1_read cX1_read 9 none]
def wsX8_verify_r4 : List Cond := [Cond.fieldLink RX1 9 "LeafSigner$Digits" "values" "[I", Cond.methodLink RX1 15 yX1_fourBits, Cond.static yX1_fourBits, Cond.code yX1_fourBits cX1_fourBits 3 (some .int), Cond.methodLink RX8 189 yX0_carryAllToEnds, Cond.instanceMethod yX0_carryAllToEnds, Cond.selects RX0 yX0_carryAllToEnds yX0_carryAllToEnds, Cond.initialized RX0, Cond.code yX0_carryAllToEnds cX0_carryAllToEnds 6 none, Cond.fieldLink RX0 14 "LeafSigner$Chains" "ends" "LLeafSigner$Pairs;", Cond.fieldLink RX0 62 "LeafSigner$Signature" "parts" "LLeafSigner$Pairs;", Cond.fieldLink RX0 71 "LeafSigner$Signature" "leaf" "I", Cond.fieldLink RX0 75 "LeafSigner$Digits" "values" "[I", Cond.methodLink RX0 67 yX5_copy, Cond.instanceMethod yX5_copy, Cond.selects RX5 yX5_copy yX5_copy, Cond.code yX5_copy cX5_copy 4 none, Cond.methodLink RX5 13 yX5_at, Cond.methodLink RX5 17 yX5_put, Cond.instanceMethod yX5_put, Cond.selects RX5 yX5_put yX5_put, Cond.code yX5_put cX5_put 5 none, Cond.methodLink RX0 58 yX0_carry, Cond.instanceMethod yX0_carry]
def wsX8_verify_r5 : List Cond := [Cond.selects RX0 yX0_carry yX0_carry, Cond.code yX0_carry cX0_carry 9 none, Cond.fieldLink RX0 23 "LeafSigner$Chains" "hasher" "LLeafSigner$Hasher;", Cond.methodLink RX0 27 yX2_start, Cond.methodLink RX0 37 yX2_add, Cond.methodLink RX0 48 yX2_addPair, Cond.methodLink RX0 44 yX2_giveTo, Cond.instanceMethod yX2_giveTo, Cond.selects RX2 yX2_giveTo yX2_giveTo, Cond.code yX2_giveTo cX2_giveTo 3 none, Cond.methodLink RX2 50 yX5_put, Cond.methodLink RX8 103 yX2_hashLeaf, Cond.instanceMethod yX2_hashLeaf, Cond.selects RX2 yX2_hashLeaf yX2_hashLeaf, Cond.code yX2_hashLeaf cX2_hashLeaf 6 none, Cond.methodLink RX2 42 yX2_start, Cond.methodLink RX2 46 yX2_addPair, Cond.methodLink RX8 193 yX8_climbToRoot, Cond.instanceMethod yX8_climbToRoot, Cond.selects RX8 yX8_climbToRoot yX8_climbToRoot, Cond.code yX8_climbToRoot cX8_climbToRoot 8 none, Cond.fieldLink RX8 115 "LeafSigner$Keys" "height" "I", Cond.fieldLink RX8 162 "LeafSigner$Signature" "parts" "LLeafSigner$Pairs;", Cond.methodLink RX8 229 yX2_startNode]
def wsX8_verify_r6 : List Cond := [Cond.instanceMethod yX2_startNode, Cond.selects RX2 yX2_startNode yX2_startNode, Cond.code yX2_startNode cX2_startNode 5 none, Cond.methodLink RX8 196 yX2_gave, Cond.instanceMethod yX2_gave, Cond.selects RX2 yX2_gave yX2_gave, Cond.code yX2_gave cX2_gave 3 (some .boolean)]
def wsX8_verify : List Cond := .code yX8_verify cX8_verify 1 (some .int) :: ((wsX8_verify_r1 ++ (wsX8_verify_r2 ++ (wsX8_verify_r3 ++ (wsX8_verify_r4 ++ (wsX8_verify_r5 ++ wsX8_verify_r6))))) ++ wsX80 ++ wsX60 ++ wsX30 ++ wsX00 ++ wsX40 ++ wsX20 ++ wsX50 ++ wsX10)
def wsX8_hash_r1 : List Cond := [Cond.fieldLink RX8 19 "LeafSigner" "hasher" "LLeafSigner$Hasher;", Cond.fieldLink RX8 40 "LeafSigner" "message" "LLeafSigner$Message;", Cond.fieldLink RX8 141 "LeafSigner$Message" "size" "I", Cond.fieldLink RX8 207 "LeafSigner$Hasher" "a" "J", Cond.fieldLink RX8 210 "LeafSigner$Hasher" "b" "J", Cond.methodLink RX8 111 yX8_isHalf, Cond.static yX8_isHalf, Cond.initialized RX8, Cond.code yX8_isHalf cX8_isHalf 1 (some .boolean), Cond.methodLink RX8 200 yX2_start, Cond.instanceMethod yX2_start, Cond.selects RX2 yX2_start yX2_start, Cond.initialized RX2, Cond.code yX2_start cX2_start 3 none, Cond.fieldLink RX2 9 "LeafSigner$Hasher" "a" "J", Cond.fieldLink RX2 15 "LeafSigner$Hasher" "b" "J", Cond.methodLink RX8 203 yX2_addMessage, Cond.instanceMethod yX2_addMessage, Cond.selects RX2 yX2_addMessage yX2_addMessage, Cond.code yX2_addMessage cX2_addMessage 3 none, Cond.fieldLink RX2 32 "LeafSigner$Message" "size" "I", Cond.fieldLink RX2 38 "LeafSigner$Message" "longs" "[J", Cond.methodLink RX2 28 yX2_add, Cond.instanceMethod yX2_add]
def wsX8_hash_r2 : List Cond := [Cond.selects RX2 yX2_add yX2_add, Cond.code yX2_add cX2_add 3 none, Cond.methodLink RX2 18 yX2_mixed, Cond.static yX2_mixed, Cond.code yX2_mixed cX2_mixed 6 (some .long), Cond.constantLong RX2 54 (-4658895280553007687), Cond.constantLong RX2 56 (-7723592293110705685)]
def wsX8_hash : List Cond := .code yX8_hash cX8_hash 3 (some .long) :: ((wsX8_hash_r1 ++ wsX8_hash_r2) ++ wsX80 ++ wsX40 ++ wsX20)
def wsX8_count : List Cond := .code yX8_count cX8_count 2 (some .int) :: ([.fieldLink RX8 10 "LeafSigner" "keys" "LLeafSigner$Keys;", .fieldLink RX8 33 "LeafSigner" "tree" "LLeafSigner$Tree;", .fieldLink RX8 83 "LeafSigner$Tree" "made" "I", .fieldLink RX8 67 "LeafSigner" "used" "I", .fieldLink RX8 40 "LeafSigner" "message" "LLeafSigner$Message;", .fieldLink RX8 141 "LeafSigner$Message" "size" "I", .fieldLink RX8 54 "LeafSigner" "signature" "LLeafSigner$Signature;", .fieldLink RX8 213 "LeafSigner$Signature" "size" "I", .methodLink RX8 79 yX3_leaves, .instanceMethod yX3_leaves, .selects RX3 yX3_leaves yX3_leaves, .initialized RX3, .code yX3_leaves cX3_leaves 1 (some .int), .fieldLink RX3 9 "LeafSigner$Keys" "height" "I"] ++ wsX80 ++ wsX70 ++ wsX40 ++ wsX60 ++ wsX30)
def wsX8_check_r1 : List Cond := [Cond.fieldLink RX8 10 "LeafSigner" "keys" "LLeafSigner$Keys;", Cond.fieldLink RX8 115 "LeafSigner$Keys" "height" "I", Cond.fieldLink RX8 33 "LeafSigner" "tree" "LLeafSigner$Tree;", Cond.fieldLink RX8 83 "LeafSigner$Tree" "made" "I", Cond.fieldLink RX8 19 "LeafSigner" "hasher" "LLeafSigner$Hasher;", Cond.fieldLink RX8 122 "LeafSigner$Tree" "nodes" "LLeafSigner$Pairs;", Cond.methodLink RX8 214 yX7_hashNode, Cond.instanceMethod yX7_hashNode, Cond.selects RX7 yX7_hashNode yX7_hashNode, Cond.initialized RX7, Cond.code yX7_hashNode cX7_hashNode 5 none, Cond.fieldLink RX7 43 "LeafSigner$Keys" "open" "J", Cond.fieldLink RX7 14 "LeafSigner$Tree" "nodes" "LLeafSigner$Pairs;", Cond.fieldLink RX7 24 "LeafSigner$Keys" "height" "I", Cond.methodLink RX7 47 yX2_startNode, Cond.instanceMethod yX2_startNode, Cond.selects RX2 yX2_startNode yX2_startNode, Cond.initialized RX2, Cond.code yX2_startNode cX2_startNode 5 none, Cond.methodLink RX2 42 yX2_start, Cond.instanceMethod yX2_start, Cond.selects RX2 yX2_start yX2_start, Cond.code yX2_start cX2_start 3 none, Cond.fieldLink RX2 9 "LeafSigner$Hasher" "a" "J"]
def wsX8_check_r2 : List Cond := [Cond.fieldLink RX2 15 "LeafSigner$Hasher" "b" "J", Cond.methodLink RX2 28 yX2_add, Cond.instanceMethod yX2_add, Cond.selects RX2 yX2_add yX2_add, Cond.code yX2_add cX2_add 3 none, Cond.methodLink RX2 18 yX2_mixed, Cond.static yX2_mixed, Cond.code yX2_mixed cX2_mixed 6 (some .long), Cond.constantLong RX2 54 (-4658895280553007687), Cond.constantLong RX2 56 (-7723592293110705685), Cond.methodLink RX7 29 yX7_slot, Cond.static yX7_slot, Cond.code yX7_slot cX7_slot 3 (some .int), Cond.methodLink RX7 51 yX2_addPair, Cond.instanceMethod yX2_addPair, Cond.selects RX2 yX2_addPair yX2_addPair, Cond.code yX2_addPair cX2_addPair 3 none, Cond.methodLink RX2 22 yX5_at, Cond.instanceMethod yX5_at, Cond.selects RX5 yX5_at yX5_at, Cond.initialized RX5, Cond.code yX5_at cX5_at 3 (some .long), Cond.fieldLink RX5 7 "LeafSigner$Pairs" "longs" "[J", Cond.methodLink RX8 125 yX7_slot]
def wsX8_check_r3 : List Cond := [Cond.methodLink RX8 196 yX2_gave, Cond.instanceMethod yX2_gave, Cond.selects RX2 yX2_gave yX2_gave, Cond.code yX2_gave cX2_gave 3 (some .boolean)]
def wsX8_check : List Cond := .code yX8_check cX8_check 4 (some .int) :: ((wsX8_check_r1 ++ (wsX8_check_r2 ++ wsX8_check_r3)) ++ wsX80 ++ wsX30 ++ wsX70 ++ wsX20 ++ wsX50)
def wsX9_init : List Cond := .code yX9_init cX9_init 1 none :: ([.methodLink RX9 1 objectInit, .instanceMethod objectInit, .code objectInit ⟨#[0xb1]⟩ 1 none, .fieldLink RX9 7 "LeafSignerModel" "height" "I", .arrayClass .long, .fieldLink RX9 13 "LeafSignerModel" "firsts" "[J", .fieldLink RX9 17 "LeafSignerModel" "seconds" "[J", .fieldLink RX9 20 "LeafSignerModel" "message" "[J", .fieldLink RX9 23 "LeafSignerModel" "partFirsts" "[J", .fieldLink RX9 26 "LeafSignerModel" "partSeconds" "[J", .fieldLink RX9 29 "LeafSignerModel" "endFirsts" "[J", .fieldLink RX9 32 "LeafSignerModel" "endSeconds" "[J", .arrayClass .int, .fieldLink RX9 35 "LeafSignerModel" "digits" "[I"] ++ wsX90)
def wsX9_mixed : List Cond := .code yX9_mixed cX9_mixed 4 (some .long) :: ([.constantLong RX9 39 (-4658895280553007687), .constantLong RX9 41 (-7723592293110705685)])
def wsX9_take : List Cond := .code yX9_take cX9_take 4 none :: ([.fieldLink RX9 43 "LeafSignerModel" "a" "J", .fieldLink RX9 47 "LeafSignerModel" "b" "J"] ++ wsX90)
def wsX9_put : List Cond := .code yX9_put cX9_put 3 none :: ([.fieldLink RX9 43 "LeafSignerModel" "a" "J", .fieldLink RX9 47 "LeafSignerModel" "b" "J", .methodLink RX9 50 yX9_mixed, .static yX9_mixed, .initialized RX9, .code yX9_mixed cX9_mixed 4 (some .long), .constantLong RX9 39 (-4658895280553007687), .constantLong RX9 41 (-7723592293110705685)] ++ wsX90)
def wsX9_carry : List Cond := .code yX9_carry cX9_carry 10 none :: ([.fieldLink RX9 43 "LeafSignerModel" "a" "J", .fieldLink RX9 47 "LeafSignerModel" "b" "J", .constantLong RX9 54 (2), .fieldLink RX9 60 "LeafSignerModel" "open" "J", .methodLink RX9 56 yX9_take, .instanceMethod yX9_take, .selects RX9 yX9_take yX9_take, .initialized RX9, .code yX9_take cX9_take 4 none, .methodLink RX9 63 yX9_put, .instanceMethod yX9_put, .selects RX9 yX9_put yX9_put, .code yX9_put cX9_put 3 none, .methodLink RX9 50 yX9_mixed, .static yX9_mixed, .code yX9_mixed cX9_mixed 4 (some .long), .constantLong RX9 39 (-4658895280553007687), .constantLong RX9 41 (-7723592293110705685)] ++ wsX90)
def wsX9_place : List Cond := .code yX9_place cX9_place 4 none :: ([.fieldLink RX9 67 "LeafSignerModel" "one" "J", .fieldLink RX9 70 "LeafSignerModel" "two" "J", .methodLink RX9 56 yX9_take, .instanceMethod yX9_take, .selects RX9 yX9_take yX9_take, .initialized RX9, .code yX9_take cX9_take 4 none, .fieldLink RX9 43 "LeafSignerModel" "a" "J", .fieldLink RX9 47 "LeafSignerModel" "b" "J", .methodLink RX9 63 yX9_put, .instanceMethod yX9_put, .selects RX9 yX9_put yX9_put, .code yX9_put cX9_put 3 none, .methodLink RX9 50 yX9_mixed, .static yX9_mixed, .code yX9_mixed cX9_mixed 4 (some .long), .constantLong RX9 39 (-4658895280553007687), .constantLong RX9 41 (-7723592293110705685), .methodLink RX9 73 yX9_carry, .instanceMethod yX9_carry, .selects RX9 yX9_carry yX9_carry, .code yX9_carry cX9_carry 10 none, .constantLong RX9 54 (2), .fieldLink RX9 60 "LeafSignerModel" "open" "J"] ++ wsX90)
def wsX9_gather : List Cond := .code yX9_gather cX9_gather 3 none :: ([.constantLong RX9 77 (3), .fieldLink RX9 60 "LeafSignerModel" "open" "J", .fieldLink RX9 29 "LeafSignerModel" "endFirsts" "[J", .fieldLink RX9 32 "LeafSignerModel" "endSeconds" "[J", .methodLink RX9 56 yX9_take, .instanceMethod yX9_take, .selects RX9 yX9_take yX9_take, .initialized RX9, .code yX9_take cX9_take 4 none, .fieldLink RX9 43 "LeafSignerModel" "a" "J", .fieldLink RX9 47 "LeafSignerModel" "b" "J", .methodLink RX9 63 yX9_put, .instanceMethod yX9_put, .selects RX9 yX9_put yX9_put, .code yX9_put cX9_put 3 none, .methodLink RX9 50 yX9_mixed, .static yX9_mixed, .code yX9_mixed cX9_mixed 4 (some .long), .constantLong RX9 39 (-4658895280553007687), .constantLong RX9 41 (-7723592293110705685)] ++ wsX90)
def wsX9_join : List Cond := .code yX9_join cX9_join 11 none :: ([.constantLong RX9 79 (4), .fieldLink RX9 60 "LeafSignerModel" "open" "J", .methodLink RX9 56 yX9_take, .instanceMethod yX9_take, .selects RX9 yX9_take yX9_take, .initialized RX9, .code yX9_take cX9_take 4 none, .fieldLink RX9 43 "LeafSignerModel" "a" "J", .fieldLink RX9 47 "LeafSignerModel" "b" "J", .methodLink RX9 63 yX9_put, .instanceMethod yX9_put, .selects RX9 yX9_put yX9_put, .code yX9_put cX9_put 3 none, .methodLink RX9 50 yX9_mixed, .static yX9_mixed, .code yX9_mixed cX9_mixed 4 (some .long), .constantLong RX9 39 (-4658895280553007687), .constantLong RX9 41 (-7723592293110705685)] ++ wsX90)
def wsX9_at : List Cond := .code yX9_at cX9_at 2 (some .int) :: ([])
def wsX9_leaves : List Cond := .code yX9_leaves cX9_leaves 1 (some .int) :: ([.fieldLink RX9 7 "LeafSignerModel" "height" "I"] ++ wsX90)
def wsX9_isMade : List Cond := .code yX9_isMade cX9_isMade 3 (some .boolean) :: ([.fieldLink RX9 7 "LeafSignerModel" "height" "I", .fieldLink RX9 85 "LeafSignerModel" "made" "I", .methodLink RX9 81 yX9_leaves, .instanceMethod yX9_leaves, .selects RX9 yX9_leaves yX9_leaves, .initialized RX9, .code yX9_leaves cX9_leaves 1 (some .int)] ++ wsX90)
def wsX9_hasRoot : List Cond := .code yX9_hasRoot cX9_hasRoot 1 (some .boolean) :: ([.fieldLink RX9 85 "LeafSignerModel" "made" "I", .methodLink RX9 81 yX9_leaves, .instanceMethod yX9_leaves, .selects RX9 yX9_leaves yX9_leaves, .initialized RX9, .code yX9_leaves cX9_leaves 1 (some .int), .fieldLink RX9 7 "LeafSignerModel" "height" "I"] ++ wsX90)
def wsX9_begin : List Cond := .code yX9_begin cX9_begin 8 (some .int) :: ([.fieldLink RX9 67 "LeafSignerModel" "one" "J", .fieldLink RX9 70 "LeafSignerModel" "two" "J", .fieldLink RX9 60 "LeafSignerModel" "open" "J", .fieldLink RX9 7 "LeafSignerModel" "height" "I", .fieldLink RX9 85 "LeafSignerModel" "made" "I", .fieldLink RX9 88 "LeafSignerModel" "used" "I", .fieldLink RX9 91 "LeafSignerModel" "signed" "Z"] ++ wsX90)
def wsX9_grow_r1 : List Cond := [Cond.fieldLink RX9 85 "LeafSignerModel" "made" "I", Cond.fieldLink RX9 29 "LeafSignerModel" "endFirsts" "[J", Cond.fieldLink RX9 43 "LeafSignerModel" "a" "J", Cond.fieldLink RX9 32 "LeafSignerModel" "endSeconds" "[J", Cond.fieldLink RX9 47 "LeafSignerModel" "b" "J", Cond.fieldLink RX9 13 "LeafSignerModel" "firsts" "[J", Cond.fieldLink RX9 17 "LeafSignerModel" "seconds" "[J", Cond.fieldLink RX9 7 "LeafSignerModel" "height" "I", Cond.methodLink RX9 81 yX9_leaves, Cond.instanceMethod yX9_leaves, Cond.selects RX9 yX9_leaves yX9_leaves, Cond.initialized RX9, Cond.code yX9_leaves cX9_leaves 1 (some .int), Cond.methodLink RX9 95 yX9_place, Cond.instanceMethod yX9_place, Cond.selects RX9 yX9_place yX9_place, Cond.code yX9_place cX9_place 4 none, Cond.fieldLink RX9 67 "LeafSignerModel" "one" "J", Cond.fieldLink RX9 70 "LeafSignerModel" "two" "J", Cond.methodLink RX9 56 yX9_take, Cond.instanceMethod yX9_take, Cond.selects RX9 yX9_take yX9_take, Cond.code yX9_take cX9_take 4 none, Cond.methodLink RX9 63 yX9_put]
def wsX9_grow_r2 : List Cond := [Cond.instanceMethod yX9_put, Cond.selects RX9 yX9_put yX9_put, Cond.code yX9_put cX9_put 3 none, Cond.methodLink RX9 50 yX9_mixed, Cond.static yX9_mixed, Cond.code yX9_mixed cX9_mixed 4 (some .long), Cond.constantLong RX9 39 (-4658895280553007687), Cond.constantLong RX9 41 (-7723592293110705685), Cond.methodLink RX9 73 yX9_carry, Cond.instanceMethod yX9_carry, Cond.selects RX9 yX9_carry yX9_carry, Cond.code yX9_carry cX9_carry 10 none, Cond.constantLong RX9 54 (2), Cond.fieldLink RX9 60 "LeafSignerModel" "open" "J", Cond.methodLink RX9 99 yX9_gather, Cond.instanceMethod yX9_gather, Cond.selects RX9 yX9_gather yX9_gather, Cond.code yX9_gather cX9_gather 3 none, Cond.constantLong RX9 77 (3), Cond.methodLink RX9 103 yX9_isMade, Cond.instanceMethod yX9_isMade, Cond.selects RX9 yX9_isMade yX9_isMade, Cond.code yX9_isMade cX9_isMade 3 (some .boolean), Cond.methodLink RX9 107 yX9_at]
def wsX9_grow_r3 : List Cond := [Cond.static yX9_at, Cond.code yX9_at cX9_at 2 (some .int), Cond.methodLink RX9 111 yX9_join, Cond.instanceMethod yX9_join, Cond.selects RX9 yX9_join yX9_join, Cond.code yX9_join cX9_join 11 none, Cond.constantLong RX9 79 (4)]
def wsX9_grow : List Cond := .code yX9_grow cX9_grow 7 (some .int) :: ((wsX9_grow_r1 ++ (wsX9_grow_r2 ++ wsX9_grow_r3)) ++ wsX90)
def wsX9_node : List Cond := .code yX9_node cX9_node 4 (some .long) :: ([.fieldLink RX9 13 "LeafSignerModel" "firsts" "[J", .fieldLink RX9 17 "LeafSignerModel" "seconds" "[J", .methodLink RX9 103 yX9_isMade, .instanceMethod yX9_isMade, .selects RX9 yX9_isMade yX9_isMade, .initialized RX9, .code yX9_isMade cX9_isMade 3 (some .boolean), .fieldLink RX9 7 "LeafSignerModel" "height" "I", .fieldLink RX9 85 "LeafSignerModel" "made" "I", .methodLink RX9 81 yX9_leaves, .instanceMethod yX9_leaves, .selects RX9 yX9_leaves yX9_leaves, .code yX9_leaves cX9_leaves 1 (some .int), .methodLink RX9 107 yX9_at, .static yX9_at, .code yX9_at cX9_at 2 (some .int)] ++ wsX90)
def wsX9_feed : List Cond := .code yX9_feed cX9_feed 3 (some .int) :: ([.fieldLink RX9 115 "LeafSignerModel" "length" "I", .fieldLink RX9 20 "LeafSignerModel" "message" "[J"] ++ wsX90)
def wsX9_reset : List Cond := .code yX9_reset cX9_reset 2 (some .int) :: ([.fieldLink RX9 115 "LeafSignerModel" "length" "I"] ++ wsX90)
def wsX9_findDigits : List Cond := .code yX9_findDigits cX9_findDigits 10 none :: ([.constantLong RX9 118 (5), .fieldLink RX9 115 "LeafSignerModel" "length" "I", .fieldLink RX9 60 "LeafSignerModel" "open" "J", .fieldLink RX9 20 "LeafSignerModel" "message" "[J", .fieldLink RX9 43 "LeafSignerModel" "a" "J", .fieldLink RX9 47 "LeafSignerModel" "b" "J", .fieldLink RX9 35 "LeafSignerModel" "digits" "[I", .methodLink RX9 56 yX9_take, .instanceMethod yX9_take, .selects RX9 yX9_take yX9_take, .initialized RX9, .code yX9_take cX9_take 4 none, .methodLink RX9 63 yX9_put, .instanceMethod yX9_put, .selects RX9 yX9_put yX9_put, .code yX9_put cX9_put 3 none, .methodLink RX9 50 yX9_mixed, .static yX9_mixed, .code yX9_mixed cX9_mixed 4 (some .long), .constantLong RX9 39 (-4658895280553007687), .constantLong RX9 41 (-7723592293110705685)] ++ wsX90)
def wsX9_digit_r1 : List Cond := [Cond.fieldLink RX9 13 "LeafSignerModel" "firsts" "[J", Cond.fieldLink RX9 7 "LeafSignerModel" "height" "I", Cond.fieldLink RX9 17 "LeafSignerModel" "seconds" "[J", Cond.fieldLink RX9 35 "LeafSignerModel" "digits" "[I", Cond.methodLink RX9 120 yX9_hasRoot, Cond.instanceMethod yX9_hasRoot, Cond.selects RX9 yX9_hasRoot yX9_hasRoot, Cond.initialized RX9, Cond.code yX9_hasRoot cX9_hasRoot 1 (some .boolean), Cond.fieldLink RX9 85 "LeafSignerModel" "made" "I", Cond.methodLink RX9 81 yX9_leaves, Cond.instanceMethod yX9_leaves, Cond.selects RX9 yX9_leaves yX9_leaves, Cond.code yX9_leaves cX9_leaves 1 (some .int), Cond.methodLink RX9 107 yX9_at, Cond.static yX9_at, Cond.code yX9_at cX9_at 2 (some .int), Cond.methodLink RX9 124 yX9_findDigits, Cond.instanceMethod yX9_findDigits, Cond.selects RX9 yX9_findDigits yX9_findDigits, Cond.code yX9_findDigits cX9_findDigits 10 none, Cond.constantLong RX9 118 (5), Cond.fieldLink RX9 115 "LeafSignerModel" "length" "I", Cond.fieldLink RX9 60 "LeafSignerModel" "open" "J"]
def wsX9_digit_r2 : List Cond := [Cond.fieldLink RX9 20 "LeafSignerModel" "message" "[J", Cond.fieldLink RX9 43 "LeafSignerModel" "a" "J", Cond.fieldLink RX9 47 "LeafSignerModel" "b" "J", Cond.methodLink RX9 56 yX9_take, Cond.instanceMethod yX9_take, Cond.selects RX9 yX9_take yX9_take, Cond.code yX9_take cX9_take 4 none, Cond.methodLink RX9 63 yX9_put, Cond.instanceMethod yX9_put, Cond.selects RX9 yX9_put yX9_put, Cond.code yX9_put cX9_put 3 none, Cond.methodLink RX9 50 yX9_mixed, Cond.static yX9_mixed, Cond.code yX9_mixed cX9_mixed 4 (some .long), Cond.constantLong RX9 39 (-4658895280553007687), Cond.constantLong RX9 41 (-7723592293110705685)]
def wsX9_digit : List Cond := .code yX9_digit cX9_digit 3 (some .int) :: ((wsX9_digit_r1 ++ wsX9_digit_r2) ++ wsX90)
def wsX9_sign_r1 : List Cond := [Cond.fieldLink RX9 88 "LeafSignerModel" "used" "I", Cond.fieldLink RX9 13 "LeafSignerModel" "firsts" "[J", Cond.fieldLink RX9 7 "LeafSignerModel" "height" "I", Cond.fieldLink RX9 17 "LeafSignerModel" "seconds" "[J", Cond.fieldLink RX9 35 "LeafSignerModel" "digits" "[I", Cond.fieldLink RX9 23 "LeafSignerModel" "partFirsts" "[J", Cond.fieldLink RX9 43 "LeafSignerModel" "a" "J", Cond.fieldLink RX9 26 "LeafSignerModel" "partSeconds" "[J", Cond.fieldLink RX9 47 "LeafSignerModel" "b" "J", Cond.fieldLink RX9 91 "LeafSignerModel" "signed" "Z", Cond.fieldLink RX9 128 "LeafSignerModel" "signer" "I", Cond.methodLink RX9 120 yX9_hasRoot, Cond.instanceMethod yX9_hasRoot, Cond.selects RX9 yX9_hasRoot yX9_hasRoot, Cond.initialized RX9, Cond.code yX9_hasRoot cX9_hasRoot 1 (some .boolean), Cond.fieldLink RX9 85 "LeafSignerModel" "made" "I", Cond.methodLink RX9 81 yX9_leaves, Cond.instanceMethod yX9_leaves, Cond.selects RX9 yX9_leaves yX9_leaves, Cond.code yX9_leaves cX9_leaves 1 (some .int), Cond.methodLink RX9 107 yX9_at, Cond.static yX9_at, Cond.code yX9_at cX9_at 2 (some .int)]
def wsX9_sign_r2 : List Cond := [Cond.methodLink RX9 124 yX9_findDigits, Cond.instanceMethod yX9_findDigits, Cond.selects RX9 yX9_findDigits yX9_findDigits, Cond.code yX9_findDigits cX9_findDigits 10 none, Cond.constantLong RX9 118 (5), Cond.fieldLink RX9 115 "LeafSignerModel" "length" "I", Cond.fieldLink RX9 60 "LeafSignerModel" "open" "J", Cond.fieldLink RX9 20 "LeafSignerModel" "message" "[J", Cond.methodLink RX9 56 yX9_take, Cond.instanceMethod yX9_take, Cond.selects RX9 yX9_take yX9_take, Cond.code yX9_take cX9_take 4 none, Cond.methodLink RX9 63 yX9_put, Cond.instanceMethod yX9_put, Cond.selects RX9 yX9_put yX9_put, Cond.code yX9_put cX9_put 3 none, Cond.methodLink RX9 50 yX9_mixed, Cond.static yX9_mixed, Cond.code yX9_mixed cX9_mixed 4 (some .long), Cond.constantLong RX9 39 (-4658895280553007687), Cond.constantLong RX9 41 (-7723592293110705685), Cond.methodLink RX9 95 yX9_place, Cond.instanceMethod yX9_place, Cond.selects RX9 yX9_place yX9_place]
def wsX9_sign_r3 : List Cond := [Cond.code yX9_place cX9_place 4 none, Cond.fieldLink RX9 67 "LeafSignerModel" "one" "J", Cond.fieldLink RX9 70 "LeafSignerModel" "two" "J", Cond.methodLink RX9 73 yX9_carry, Cond.instanceMethod yX9_carry, Cond.selects RX9 yX9_carry yX9_carry, Cond.code yX9_carry cX9_carry 10 none, Cond.constantLong RX9 54 (2)]
def wsX9_sign : List Cond := .code yX9_sign cX9_sign 5 (some .int) :: ((wsX9_sign_r1 ++ (wsX9_sign_r2 ++ wsX9_sign_r3)) ++ wsX90)
def wsX9_leaf : List Cond := .code yX9_leaf cX9_leaf 1 (some .int) :: ([.fieldLink RX9 91 "LeafSignerModel" "signed" "Z", .fieldLink RX9 128 "LeafSignerModel" "signer" "I"] ++ wsX90)
def wsX9_isPart : List Cond := .code yX9_isPart cX9_isPart 3 (some .boolean) :: ([.fieldLink RX9 91 "LeafSignerModel" "signed" "Z", .fieldLink RX9 7 "LeafSignerModel" "height" "I"] ++ wsX90)
def wsX9_part : List Cond := .code yX9_part cX9_part 3 (some .long) :: ([.fieldLink RX9 23 "LeafSignerModel" "partFirsts" "[J", .fieldLink RX9 26 "LeafSignerModel" "partSeconds" "[J", .methodLink RX9 131 yX9_isPart, .instanceMethod yX9_isPart, .selects RX9 yX9_isPart yX9_isPart, .initialized RX9, .code yX9_isPart cX9_isPart 3 (some .boolean), .fieldLink RX9 91 "LeafSignerModel" "signed" "Z", .fieldLink RX9 7 "LeafSignerModel" "height" "I"] ++ wsX90)
def wsX9_setLeaf : List Cond := .code yX9_setLeaf cX9_setLeaf 2 (some .int) :: ([.fieldLink RX9 91 "LeafSignerModel" "signed" "Z", .fieldLink RX9 128 "LeafSignerModel" "signer" "I"] ++ wsX90)
def wsX9_setPart : List Cond := .code yX9_setPart cX9_setPart 5 (some .int) :: ([.fieldLink RX9 23 "LeafSignerModel" "partFirsts" "[J", .fieldLink RX9 26 "LeafSignerModel" "partSeconds" "[J", .methodLink RX9 131 yX9_isPart, .instanceMethod yX9_isPart, .selects RX9 yX9_isPart yX9_isPart, .initialized RX9, .code yX9_isPart cX9_isPart 3 (some .boolean), .fieldLink RX9 91 "LeafSignerModel" "signed" "Z", .fieldLink RX9 7 "LeafSignerModel" "height" "I"] ++ wsX90)
def wsX9_tell : List Cond := .code yX9_tell cX9_tell 4 (some .int) :: ([.fieldLink RX9 134 "LeafSignerModel" "toldFirst" "J", .fieldLink RX9 137 "LeafSignerModel" "toldSecond" "J"] ++ wsX90)
def wsX9_verify_r1 : List Cond := [Cond.fieldLink RX9 91 "LeafSignerModel" "signed" "Z", Cond.fieldLink RX9 128 "LeafSignerModel" "signer" "I", Cond.fieldLink RX9 134 "LeafSignerModel" "toldFirst" "J", Cond.fieldLink RX9 137 "LeafSignerModel" "toldSecond" "J", Cond.fieldLink RX9 23 "LeafSignerModel" "partFirsts" "[J", Cond.fieldLink RX9 43 "LeafSignerModel" "a" "J", Cond.fieldLink RX9 26 "LeafSignerModel" "partSeconds" "[J", Cond.fieldLink RX9 47 "LeafSignerModel" "b" "J", Cond.fieldLink RX9 35 "LeafSignerModel" "digits" "[I", Cond.fieldLink RX9 29 "LeafSignerModel" "endFirsts" "[J", Cond.fieldLink RX9 32 "LeafSignerModel" "endSeconds" "[J", Cond.fieldLink RX9 7 "LeafSignerModel" "height" "I", Cond.methodLink RX9 81 yX9_leaves, Cond.instanceMethod yX9_leaves, Cond.selects RX9 yX9_leaves yX9_leaves, Cond.initialized RX9, Cond.code yX9_leaves cX9_leaves 1 (some .int), Cond.methodLink RX9 124 yX9_findDigits, Cond.instanceMethod yX9_findDigits, Cond.selects RX9 yX9_findDigits yX9_findDigits, Cond.code yX9_findDigits cX9_findDigits 10 none, Cond.constantLong RX9 118 (5), Cond.fieldLink RX9 115 "LeafSignerModel" "length" "I", Cond.fieldLink RX9 60 "LeafSignerModel" "open" "J"]
def wsX9_verify_r2 : List Cond := [Cond.fieldLink RX9 20 "LeafSignerModel" "message" "[J", Cond.methodLink RX9 56 yX9_take, Cond.instanceMethod yX9_take, Cond.selects RX9 yX9_take yX9_take, Cond.code yX9_take cX9_take 4 none, Cond.methodLink RX9 63 yX9_put, Cond.instanceMethod yX9_put, Cond.selects RX9 yX9_put yX9_put, Cond.code yX9_put cX9_put 3 none, Cond.methodLink RX9 50 yX9_mixed, Cond.static yX9_mixed, Cond.code yX9_mixed cX9_mixed 4 (some .long), Cond.constantLong RX9 39 (-4658895280553007687), Cond.constantLong RX9 41 (-7723592293110705685), Cond.methodLink RX9 73 yX9_carry, Cond.instanceMethod yX9_carry, Cond.selects RX9 yX9_carry yX9_carry, Cond.code yX9_carry cX9_carry 10 none, Cond.constantLong RX9 54 (2), Cond.methodLink RX9 99 yX9_gather, Cond.instanceMethod yX9_gather, Cond.selects RX9 yX9_gather yX9_gather, Cond.code yX9_gather cX9_gather 3 none, Cond.constantLong RX9 77 (3)]
def wsX9_verify_r3 : List Cond := [Cond.methodLink RX9 111 yX9_join, Cond.instanceMethod yX9_join, Cond.selects RX9 yX9_join yX9_join, Cond.code yX9_join cX9_join 11 none, Cond.constantLong RX9 79 (4)]
def wsX9_verify : List Cond := .code yX9_verify cX9_verify 11 (some .int) :: ((wsX9_verify_r1 ++ (wsX9_verify_r2 ++ wsX9_verify_r3)) ++ wsX90)
def wsX9_hash : List Cond := .code yX9_hash cX9_hash 4 (some .long) :: ([.fieldLink RX9 115 "LeafSignerModel" "length" "I", .fieldLink RX9 20 "LeafSignerModel" "message" "[J", .fieldLink RX9 43 "LeafSignerModel" "a" "J", .fieldLink RX9 47 "LeafSignerModel" "b" "J", .methodLink RX9 56 yX9_take, .instanceMethod yX9_take, .selects RX9 yX9_take yX9_take, .initialized RX9, .code yX9_take cX9_take 4 none, .methodLink RX9 63 yX9_put, .instanceMethod yX9_put, .selects RX9 yX9_put yX9_put, .code yX9_put cX9_put 3 none, .methodLink RX9 50 yX9_mixed, .static yX9_mixed, .code yX9_mixed cX9_mixed 4 (some .long), .constantLong RX9 39 (-4658895280553007687), .constantLong RX9 41 (-7723592293110705685)] ++ wsX90)
def wsX9_count : List Cond := .code yX9_count cX9_count 2 (some .int) :: ([.fieldLink RX9 85 "LeafSignerModel" "made" "I", .fieldLink RX9 88 "LeafSignerModel" "used" "I", .fieldLink RX9 115 "LeafSignerModel" "length" "I", .fieldLink RX9 91 "LeafSignerModel" "signed" "Z", .fieldLink RX9 7 "LeafSignerModel" "height" "I", .methodLink RX9 81 yX9_leaves, .instanceMethod yX9_leaves, .selects RX9 yX9_leaves yX9_leaves, .initialized RX9, .code yX9_leaves cX9_leaves 1 (some .int)] ++ wsX90)
def wsX9_check_r1 : List Cond := [Cond.fieldLink RX9 7 "LeafSignerModel" "height" "I", Cond.fieldLink RX9 13 "LeafSignerModel" "firsts" "[J", Cond.fieldLink RX9 17 "LeafSignerModel" "seconds" "[J", Cond.fieldLink RX9 43 "LeafSignerModel" "a" "J", Cond.fieldLink RX9 47 "LeafSignerModel" "b" "J", Cond.methodLink RX9 103 yX9_isMade, Cond.instanceMethod yX9_isMade, Cond.selects RX9 yX9_isMade yX9_isMade, Cond.initialized RX9, Cond.code yX9_isMade cX9_isMade 3 (some .boolean), Cond.fieldLink RX9 85 "LeafSignerModel" "made" "I", Cond.methodLink RX9 81 yX9_leaves, Cond.instanceMethod yX9_leaves, Cond.selects RX9 yX9_leaves yX9_leaves, Cond.code yX9_leaves cX9_leaves 1 (some .int), Cond.methodLink RX9 107 yX9_at, Cond.static yX9_at, Cond.code yX9_at cX9_at 2 (some .int), Cond.methodLink RX9 111 yX9_join, Cond.instanceMethod yX9_join, Cond.selects RX9 yX9_join yX9_join, Cond.code yX9_join cX9_join 11 none, Cond.constantLong RX9 79 (4), Cond.fieldLink RX9 60 "LeafSignerModel" "open" "J"]
def wsX9_check_r2 : List Cond := [Cond.methodLink RX9 56 yX9_take, Cond.instanceMethod yX9_take, Cond.selects RX9 yX9_take yX9_take, Cond.code yX9_take cX9_take 4 none, Cond.methodLink RX9 63 yX9_put, Cond.instanceMethod yX9_put, Cond.selects RX9 yX9_put yX9_put, Cond.code yX9_put cX9_put 3 none, Cond.methodLink RX9 50 yX9_mixed, Cond.static yX9_mixed, Cond.code yX9_mixed cX9_mixed 4 (some .long), Cond.constantLong RX9 39 (-4658895280553007687), Cond.constantLong RX9 41 (-7723592293110705685)]
def wsX9_check : List Cond := .code yX9_check cX9_check 4 (some .int) :: ((wsX9_check_r1 ++ wsX9_check_r2) ++ wsX90)
def wsJ9_min_7cf53 : List Cond := .code yJ9_min_7cf53 cJ9_min_7cf53 2 (some .int) :: ([])
def wsL_law_r1 : List Cond := [Cond.classLink RL 7 RX8, Cond.instantiable RX8 9, Cond.initialized RX8, Cond.classLink RL 10 RX9, Cond.instantiable RX9 21, Cond.initialized RX9, Cond.constantLong RL 13 (4294967295), Cond.methodLink RL 9 yX8_init, Cond.instanceMethod yX8_init, Cond.code yX8_init cX8_init 1 none, Cond.methodLink RX8 1 objectInit, Cond.instanceMethod objectInit, Cond.code objectInit ⟨#[0xb1]⟩ 1 none, Cond.classLink RX8 7 RX3, Cond.instantiable RX3 4, Cond.initialized RX3, Cond.fieldLink RX8 10 "LeafSigner" "keys" "LLeafSigner$Keys;", Cond.classLink RX8 16 RX2, Cond.instantiable RX2 2, Cond.initialized RX2, Cond.fieldLink RX8 19 "LeafSigner" "hasher" "LLeafSigner$Hasher;", Cond.classLink RX8 23 RX0, Cond.instantiable RX0 2, Cond.initialized RX0]
def wsL_law_r2 : List Cond := [Cond.fieldLink RX8 26 "LeafSigner" "chains" "LLeafSigner$Chains;", Cond.classLink RX8 30 RX7, Cond.instantiable RX7 2, Cond.initialized RX7, Cond.fieldLink RX8 33 "LeafSigner" "tree" "LLeafSigner$Tree;", Cond.classLink RX8 37 RX4, Cond.instantiable RX4 2, Cond.initialized RX4, Cond.fieldLink RX8 40 "LeafSigner" "message" "LLeafSigner$Message;", Cond.classLink RX8 44 RX1, Cond.instantiable RX1 1, Cond.initialized RX1, Cond.fieldLink RX8 47 "LeafSigner" "digits" "LLeafSigner$Digits;", Cond.classLink RX8 51 RX6, Cond.instantiable RX6 3, Cond.initialized RX6, Cond.fieldLink RX8 54 "LeafSigner" "signature" "LLeafSigner$Signature;", Cond.classLink RX8 58 RX5, Cond.instantiable RX5 1, Cond.initialized RX5, Cond.fieldLink RX8 63 "LeafSigner" "told" "LLeafSigner$Pairs;", Cond.fieldLink RX8 67 "LeafSigner" "used" "I", Cond.methodLink RX8 9 yX3_init, Cond.instanceMethod yX3_init]
def wsL_law_r3 : List Cond := [Cond.code yX3_init cX3_init 1 none, Cond.methodLink RX3 3 objectInit, Cond.fieldLink RX3 9 "LeafSigner$Keys" "height" "I", Cond.instanceMethod yX2_init, Cond.code yX2_init cX2_init 1 none, Cond.methodLink RX2 3 objectInit, Cond.methodLink RX8 25 yX0_init, Cond.instanceMethod yX0_init, Cond.code yX0_init cX0_init 1 none, Cond.methodLink RX0 3 objectInit, Cond.classLink RX0 9 RX5, Cond.fieldLink RX0 14 "LeafSigner$Chains" "ends" "LLeafSigner$Pairs;", Cond.classLink RX0 20 RX2, Cond.fieldLink RX0 23 "LeafSigner$Chains" "hasher" "LLeafSigner$Hasher;", Cond.methodLink RX0 11 yX5_init, Cond.instanceMethod yX5_init, Cond.code yX5_init cX5_init 2 none, Cond.methodLink RX5 1 objectInit, Cond.arrayClass .long, Cond.fieldLink RX5 7 "LeafSigner$Pairs" "longs" "[J", Cond.methodLink RX8 32 yX7_init, Cond.instanceMethod yX7_init, Cond.code yX7_init cX7_init 1 none, Cond.methodLink RX7 3 objectInit]
def wsL_law_r4 : List Cond := [Cond.classLink RX7 9 RX5, Cond.fieldLink RX7 14 "LeafSigner$Tree" "nodes" "LLeafSigner$Pairs;", Cond.fieldLink RX7 20 "LeafSigner$Tree" "made" "I", Cond.methodLink RX7 11 yX5_init, Cond.methodLink RX8 39 yX4_init, Cond.instanceMethod yX4_init, Cond.code yX4_init cX4_init 1 none, Cond.methodLink RX4 1 objectInit, Cond.fieldLink RX4 9 "LeafSigner$Message" "longs" "[J", Cond.fieldLink RX4 13 "LeafSigner$Message" "size" "I", Cond.methodLink RX8 46 yX1_init, Cond.instanceMethod yX1_init, Cond.code yX1_init cX1_init 1 none, Cond.methodLink RX1 3 objectInit, Cond.arrayClass .int, Cond.fieldLink RX1 9 "LeafSigner$Digits" "values" "[I", Cond.methodLink RX8 53 yX6_init, Cond.instanceMethod yX6_init, Cond.code yX6_init cX6_init 1 none, Cond.methodLink RX6 3 objectInit, Cond.classLink RX6 9 RX5, Cond.fieldLink RX6 14 "LeafSigner$Signature" "parts" "LLeafSigner$Pairs;", Cond.fieldLink RX6 20 "LeafSigner$Signature" "leaf" "I", Cond.fieldLink RX6 24 "LeafSigner$Signature" "size" "I"]
def wsL_law_r5 : List Cond := [Cond.methodLink RX6 11 yX5_init, Cond.methodLink RX8 60 yX5_init, Cond.methodLink RL 12 yX9_init, Cond.instanceMethod yX9_init, Cond.code yX9_init cX9_init 1 none, Cond.methodLink RX9 1 objectInit, Cond.fieldLink RX9 7 "LeafSignerModel" "height" "I", Cond.fieldLink RX9 13 "LeafSignerModel" "firsts" "[J", Cond.fieldLink RX9 17 "LeafSignerModel" "seconds" "[J", Cond.fieldLink RX9 20 "LeafSignerModel" "message" "[J", Cond.fieldLink RX9 23 "LeafSignerModel" "partFirsts" "[J", Cond.fieldLink RX9 26 "LeafSignerModel" "partSeconds" "[J", Cond.fieldLink RX9 29 "LeafSignerModel" "endFirsts" "[J", Cond.fieldLink RX9 32 "LeafSignerModel" "endSeconds" "[J", Cond.fieldLink RX9 35 "LeafSignerModel" "digits" "[I", Cond.methodLink RL 15 yX8_begin, Cond.instanceMethod yX8_begin, Cond.selects RX8 yX8_begin yX8_begin, Cond.code yX8_begin cX8_begin 8 (some .int), Cond.methodLink RX8 71 yX3_renew, Cond.instanceMethod yX3_renew, Cond.selects RX3 yX3_renew yX3_renew, Cond.code yX3_renew cX3_renew 8 none, Cond.fieldLink RX3 15 "LeafSigner$Keys" "one" "J"]
def wsL_law_r6 : List Cond := [Cond.fieldLink RX3 19 "LeafSigner$Keys" "two" "J", Cond.fieldLink RX3 22 "LeafSigner$Keys" "open" "J", Cond.methodLink RX8 75 yX7_clear, Cond.instanceMethod yX7_clear, Cond.selects RX7 yX7_clear yX7_clear, Cond.code yX7_clear cX7_clear 1 none, Cond.methodLink RX8 78 yX6_clear, Cond.instanceMethod yX6_clear, Cond.selects RX6 yX6_clear yX6_clear, Cond.code yX6_clear cX6_clear 1 none, Cond.methodLink RL 19 yX9_begin, Cond.instanceMethod yX9_begin, Cond.selects RX9 yX9_begin yX9_begin, Cond.code yX9_begin cX9_begin 8 (some .int), Cond.fieldLink RX9 67 "LeafSignerModel" "one" "J", Cond.fieldLink RX9 70 "LeafSignerModel" "two" "J", Cond.fieldLink RX9 60 "LeafSignerModel" "open" "J", Cond.fieldLink RX9 85 "LeafSignerModel" "made" "I", Cond.fieldLink RX9 88 "LeafSignerModel" "used" "I", Cond.fieldLink RX9 91 "LeafSignerModel" "signed" "Z", Cond.methodLink RL 20 yX8_grow, Cond.instanceMethod yX8_grow, Cond.selects RX8 yX8_grow yX8_grow, Cond.code yX8_grow cX8_grow 5 (some .int)]
def wsL_law_r7 : List Cond := [Cond.fieldLink RX8 83 "LeafSigner$Tree" "made" "I", Cond.methodLink RX8 86 Lib.Math.min.name, Cond.static Lib.Math.min.name, Cond.initialized "java/lang/Math", Cond.code Lib.Math.min.name Lib.Math.min.code 2 (some .int), Cond.fieldLink RX8 96 "LeafSigner$Keys" "open" "J", Cond.fieldLink RX8 100 "LeafSigner$Chains" "ends" "LLeafSigner$Pairs;", Cond.methodLink RX8 79 yX3_leaves, Cond.instanceMethod yX3_leaves, Cond.selects RX3 yX3_leaves yX3_leaves, Cond.code yX3_leaves cX3_leaves 1 (some .int), Cond.methodLink RX8 92 yX0_makeEnds, Cond.instanceMethod yX0_makeEnds, Cond.selects RX0 yX0_makeEnds yX0_makeEnds, Cond.code yX0_makeEnds cX0_makeEnds 4 none, Cond.fieldLink RX0 55 "LeafSigner$Keys" "open" "J", Cond.methodLink RX0 51 yX0_makeStart, Cond.instanceMethod yX0_makeStart, Cond.selects RX0 yX0_makeStart yX0_makeStart, Cond.code yX0_makeStart cX0_makeStart 5 none, Cond.fieldLink RX0 31 "LeafSigner$Keys" "one" "J", Cond.fieldLink RX0 41 "LeafSigner$Keys" "two" "J", Cond.methodLink RX0 27 yX2_start, Cond.instanceMethod yX2_start]
def wsL_law_r8 : List Cond := [Cond.selects RX2 yX2_start yX2_start, Cond.code yX2_start cX2_start 3 none, Cond.fieldLink RX2 9 "LeafSigner$Hasher" "a" "J", Cond.fieldLink RX2 15 "LeafSigner$Hasher" "b" "J", Cond.methodLink RX0 37 yX2_add, Cond.instanceMethod yX2_add, Cond.selects RX2 yX2_add yX2_add, Cond.code yX2_add cX2_add 3 none, Cond.methodLink RX2 18 yX2_mixed, Cond.static yX2_mixed, Cond.code yX2_mixed cX2_mixed 6 (some .long), Cond.constantLong RX2 54 (-4658895280553007687), Cond.constantLong RX2 56 (-7723592293110705685), Cond.methodLink RX0 44 yX2_giveTo, Cond.instanceMethod yX2_giveTo, Cond.selects RX2 yX2_giveTo yX2_giveTo, Cond.code yX2_giveTo cX2_giveTo 3 none, Cond.methodLink RX2 50 yX5_put, Cond.instanceMethod yX5_put, Cond.selects RX5 yX5_put yX5_put, Cond.code yX5_put cX5_put 5 none, Cond.methodLink RX0 58 yX0_carry, Cond.instanceMethod yX0_carry, Cond.selects RX0 yX0_carry yX0_carry]
def wsL_law_r9 : List Cond := [Cond.code yX0_carry cX0_carry 9 none, Cond.methodLink RX0 48 yX2_addPair, Cond.instanceMethod yX2_addPair, Cond.selects RX2 yX2_addPair yX2_addPair, Cond.code yX2_addPair cX2_addPair 3 none, Cond.methodLink RX2 22 yX5_at, Cond.instanceMethod yX5_at, Cond.selects RX5 yX5_at yX5_at, Cond.code yX5_at cX5_at 3 (some .long), Cond.methodLink RX2 28 yX2_add, Cond.methodLink RX8 103 yX2_hashLeaf, Cond.instanceMethod yX2_hashLeaf, Cond.selects RX2 yX2_hashLeaf yX2_hashLeaf, Cond.code yX2_hashLeaf cX2_hashLeaf 6 none, Cond.methodLink RX2 42 yX2_start, Cond.methodLink RX2 46 yX2_addPair, Cond.methodLink RX8 107 yX7_addLeaf, Cond.instanceMethod yX7_addLeaf, Cond.selects RX7 yX7_addLeaf yX7_addLeaf, Cond.code yX7_addLeaf cX7_addLeaf 6 none, Cond.fieldLink RX7 24 "LeafSigner$Keys" "height" "I", Cond.methodLink RX7 29 yX7_slot, Cond.static yX7_slot, Cond.code yX7_slot cX7_slot 3 (some .int)]
def wsL_law_r10 : List Cond := [Cond.methodLink RX7 33 yX2_giveTo, Cond.methodLink RX7 39 yX7_hashNode, Cond.instanceMethod yX7_hashNode, Cond.selects RX7 yX7_hashNode yX7_hashNode, Cond.code yX7_hashNode cX7_hashNode 5 none, Cond.fieldLink RX7 43 "LeafSigner$Keys" "open" "J", Cond.methodLink RX7 47 yX2_startNode, Cond.instanceMethod yX2_startNode, Cond.selects RX2 yX2_startNode yX2_startNode, Cond.code yX2_startNode cX2_startNode 5 none, Cond.methodLink RX7 51 yX2_addPair, Cond.methodLink RL 24 yX9_grow, Cond.instanceMethod yX9_grow, Cond.selects RX9 yX9_grow yX9_grow, Cond.code yX9_grow cX9_grow 7 (some .int), Cond.fieldLink RX9 43 "LeafSignerModel" "a" "J", Cond.fieldLink RX9 47 "LeafSignerModel" "b" "J", Cond.methodLink RX9 81 yX9_leaves, Cond.instanceMethod yX9_leaves, Cond.selects RX9 yX9_leaves yX9_leaves, Cond.code yX9_leaves cX9_leaves 1 (some .int), Cond.methodLink RX9 95 yX9_place, Cond.instanceMethod yX9_place, Cond.selects RX9 yX9_place yX9_place]
def wsL_law_r11 : List Cond := [Cond.code yX9_place cX9_place 4 none, Cond.methodLink RX9 56 yX9_take, Cond.instanceMethod yX9_take, Cond.selects RX9 yX9_take yX9_take, Cond.code yX9_take cX9_take 4 none, Cond.methodLink RX9 63 yX9_put, Cond.instanceMethod yX9_put, Cond.selects RX9 yX9_put yX9_put, Cond.code yX9_put cX9_put 3 none, Cond.methodLink RX9 50 yX9_mixed, Cond.static yX9_mixed, Cond.code yX9_mixed cX9_mixed 4 (some .long), Cond.constantLong RX9 39 (-4658895280553007687), Cond.constantLong RX9 41 (-7723592293110705685), Cond.methodLink RX9 73 yX9_carry, Cond.instanceMethod yX9_carry, Cond.selects RX9 yX9_carry yX9_carry, Cond.code yX9_carry cX9_carry 10 none, Cond.constantLong RX9 54 (2), Cond.methodLink RX9 99 yX9_gather, Cond.instanceMethod yX9_gather, Cond.selects RX9 yX9_gather yX9_gather, Cond.code yX9_gather cX9_gather 3 none, Cond.constantLong RX9 77 (3)]
def wsL_law_r12 : List Cond := [Cond.methodLink RX9 103 yX9_isMade, Cond.instanceMethod yX9_isMade, Cond.selects RX9 yX9_isMade yX9_isMade, Cond.code yX9_isMade cX9_isMade 3 (some .boolean), Cond.methodLink RX9 107 yX9_at, Cond.static yX9_at, Cond.code yX9_at cX9_at 2 (some .int), Cond.methodLink RX9 111 yX9_join, Cond.instanceMethod yX9_join, Cond.selects RX9 yX9_join yX9_join, Cond.code yX9_join cX9_join 11 none, Cond.constantLong RX9 79 (4), Cond.methodLink RL 25 yX8_node, Cond.instanceMethod yX8_node, Cond.selects RX8 yX8_node yX8_node, Cond.code yX8_node cX8_node 4 (some .long), Cond.fieldLink RX8 115 "LeafSigner$Keys" "height" "I", Cond.fieldLink RX8 122 "LeafSigner$Tree" "nodes" "LLeafSigner$Pairs;", Cond.methodLink RX8 111 yX8_isHalf, Cond.static yX8_isHalf, Cond.code yX8_isHalf cX8_isHalf 1 (some .boolean), Cond.methodLink RX8 118 yX7_isMade, Cond.instanceMethod yX7_isMade, Cond.selects RX7 yX7_isMade yX7_isMade]
def wsL_law_r13 : List Cond := [Cond.code yX7_isMade cX7_isMade 4 (some .boolean), Cond.methodLink RX8 125 yX7_slot, Cond.methodLink RX8 129 yX5_at, Cond.methodLink RL 29 yX9_node, Cond.instanceMethod yX9_node, Cond.selects RX9 yX9_node yX9_node, Cond.code yX9_node cX9_node 4 (some .long), Cond.methodLink RL 30 yX8_feed, Cond.instanceMethod yX8_feed, Cond.selects RX8 yX8_feed yX8_feed, Cond.code yX8_feed cX8_feed 3 (some .int), Cond.fieldLink RX8 141 "LeafSigner$Message" "size" "I", Cond.methodLink RX8 133 yX4_isFull, Cond.instanceMethod yX4_isFull, Cond.selects RX4 yX4_isFull yX4_isFull, Cond.code yX4_isFull cX4_isFull 1 (some .boolean), Cond.methodLink RX8 137 yX4_append, Cond.instanceMethod yX4_append, Cond.selects RX4 yX4_append yX4_append, Cond.code yX4_append cX4_append 3 none, Cond.methodLink RL 34 yX9_feed, Cond.instanceMethod yX9_feed, Cond.selects RX9 yX9_feed yX9_feed, Cond.code yX9_feed cX9_feed 3 (some .int)]
def wsL_law_r14 : List Cond := [Cond.fieldLink RX9 115 "LeafSignerModel" "length" "I", Cond.methodLink RL 35 yX8_reset, Cond.instanceMethod yX8_reset, Cond.selects RX8 yX8_reset yX8_reset, Cond.code yX8_reset cX8_reset 2 (some .int), Cond.methodLink RX8 144 yX4_clear, Cond.instanceMethod yX4_clear, Cond.selects RX4 yX4_clear yX4_clear, Cond.code yX4_clear cX4_clear 1 none, Cond.methodLink RL 39 yX9_reset, Cond.instanceMethod yX9_reset, Cond.selects RX9 yX9_reset yX9_reset, Cond.code yX9_reset cX9_reset 2 (some .int), Cond.methodLink RL 40 yX8_digit, Cond.instanceMethod yX8_digit, Cond.selects RX8 yX8_digit yX8_digit, Cond.code yX8_digit cX8_digit 3 (some .int), Cond.fieldLink RX8 155 "LeafSigner$Digits" "values" "[I", Cond.methodLink RX8 145 yX3_hasLeaf, Cond.instanceMethod yX3_hasLeaf, Cond.selects RX3 yX3_hasLeaf yX3_hasLeaf, Cond.code yX3_hasLeaf cX3_hasLeaf 2 (some .boolean), Cond.methodLink RX3 25 yX3_leaves, Cond.methodLink RX8 148 yX8_isRootMade]
def wsL_law_r15 : List Cond := [Cond.instanceMethod yX8_isRootMade, Cond.selects RX8 yX8_isRootMade yX8_isRootMade, Cond.code yX8_isRootMade cX8_isRootMade 1 (some .boolean), Cond.methodLink RX8 151 yX8_readDigits, Cond.instanceMethod yX8_readDigits, Cond.selects RX8 yX8_readDigits yX8_readDigits, Cond.code yX8_readDigits cX8_readDigits 4 none, Cond.fieldLink RX8 207 "LeafSigner$Hasher" "a" "J", Cond.fieldLink RX8 210 "LeafSigner$Hasher" "b" "J", Cond.methodLink RX8 200 yX2_start, Cond.methodLink RX8 218 yX2_add, Cond.methodLink RX8 221 yX2_addPair, Cond.methodLink RX8 203 yX2_addMessage, Cond.instanceMethod yX2_addMessage, Cond.selects RX2 yX2_addMessage yX2_addMessage, Cond.code yX2_addMessage cX2_addMessage 3 none, Cond.fieldLink RX2 32 "LeafSigner$Message" "size" "I", Cond.fieldLink RX2 38 "LeafSigner$Message" "longs" "[J", Cond.methodLink RX8 225 yX1_read, Cond.instanceMethod yX1_read, Cond.selects RX1 yX1_read yX1_read, Cond.code yX1_read cX1_read 9 none, Cond.methodLink RX1 15 yX1_fourBits, Cond.static yX1_fourBits]
def wsL_law_r16 : List Cond := [Cond.code yX1_fourBits cX1_fourBits 3 (some .int), Cond.methodLink RL 44 yX9_digit, Cond.instanceMethod yX9_digit, Cond.selects RX9 yX9_digit yX9_digit, Cond.code yX9_digit cX9_digit 3 (some .int), Cond.methodLink RX9 120 yX9_hasRoot, Cond.instanceMethod yX9_hasRoot, Cond.selects RX9 yX9_hasRoot yX9_hasRoot, Cond.code yX9_hasRoot cX9_hasRoot 1 (some .boolean), Cond.methodLink RX9 124 yX9_findDigits, Cond.instanceMethod yX9_findDigits, Cond.selects RX9 yX9_findDigits yX9_findDigits, Cond.code yX9_findDigits cX9_findDigits 10 none, Cond.constantLong RX9 118 (5), Cond.methodLink RL 45 yX8_sign, Cond.instanceMethod yX8_sign, Cond.selects RX8 yX8_sign yX8_sign, Cond.code yX8_sign cX8_sign 4 (some .int), Cond.fieldLink RX8 162 "LeafSigner$Signature" "parts" "LLeafSigner$Pairs;", Cond.methodLink RX8 159 yX6_open, Cond.instanceMethod yX6_open, Cond.selects RX6 yX6_open yX6_open, Cond.code yX6_open cX6_open 3 none, Cond.methodLink RX8 165 yX0_makeStart]
def wsL_law_r17 : List Cond := [Cond.methodLink RX8 169 yX0_carry, Cond.methodLink RX8 173 yX5_copy, Cond.instanceMethod yX5_copy, Cond.selects RX5 yX5_copy yX5_copy, Cond.code yX5_copy cX5_copy 4 none, Cond.methodLink RX5 13 yX5_at, Cond.methodLink RX5 17 yX5_put, Cond.methodLink RL 48 yX9_sign, Cond.instanceMethod yX9_sign, Cond.selects RX9 yX9_sign yX9_sign, Cond.code yX9_sign cX9_sign 5 (some .int), Cond.fieldLink RX9 128 "LeafSignerModel" "signer" "I", Cond.methodLink RL 49 yX8_leaf, Cond.instanceMethod yX8_leaf, Cond.selects RX8 yX8_leaf yX8_leaf, Cond.code yX8_leaf cX8_leaf 1 (some .int), Cond.fieldLink RX8 176 "LeafSigner$Signature" "leaf" "I", Cond.methodLink RL 52 yX9_leaf, Cond.instanceMethod yX9_leaf, Cond.selects RX9 yX9_leaf yX9_leaf, Cond.code yX9_leaf cX9_leaf 1 (some .int), Cond.methodLink RL 53 yX8_part, Cond.instanceMethod yX8_part, Cond.selects RX8 yX8_part yX8_part]
def wsL_law_r18 : List Cond := [Cond.code yX8_part cX8_part 3 (some .long), Cond.methodLink RX8 179 yX6_hasPart, Cond.instanceMethod yX6_hasPart, Cond.selects RX6 yX6_hasPart yX6_hasPart, Cond.code yX6_hasPart cX6_hasPart 2 (some .boolean), Cond.methodLink RL 57 yX9_part, Cond.instanceMethod yX9_part, Cond.selects RX9 yX9_part yX9_part, Cond.code yX9_part cX9_part 3 (some .long), Cond.methodLink RX9 131 yX9_isPart, Cond.instanceMethod yX9_isPart, Cond.selects RX9 yX9_isPart yX9_isPart, Cond.code yX9_isPart cX9_isPart 3 (some .boolean), Cond.methodLink RL 58 yX8_setLeaf, Cond.instanceMethod yX8_setLeaf, Cond.selects RX8 yX8_setLeaf yX8_setLeaf, Cond.code yX8_setLeaf cX8_setLeaf 2 (some .int), Cond.methodLink RX8 182 yX6_isThere, Cond.instanceMethod yX6_isThere, Cond.selects RX6 yX6_isThere yX6_isThere, Cond.code yX6_isThere cX6_isThere 1 (some .boolean), Cond.methodLink RL 61 yX9_setLeaf, Cond.instanceMethod yX9_setLeaf, Cond.selects RX9 yX9_setLeaf yX9_setLeaf]
def wsL_law_r19 : List Cond := [Cond.code yX9_setLeaf cX9_setLeaf 2 (some .int), Cond.methodLink RL 62 yX8_setPart, Cond.instanceMethod yX8_setPart, Cond.selects RX8 yX8_setPart yX8_setPart, Cond.code yX8_setPart cX8_setPart 5 (some .int), Cond.methodLink RX8 185 yX5_put, Cond.methodLink RL 66 yX9_setPart, Cond.instanceMethod yX9_setPart, Cond.selects RX9 yX9_setPart yX9_setPart, Cond.code yX9_setPart cX9_setPart 5 (some .int), Cond.methodLink RL 67 yX8_tell, Cond.instanceMethod yX8_tell, Cond.selects RX8 yX8_tell yX8_tell, Cond.code yX8_tell cX8_tell 4 (some .int), Cond.methodLink RL 71 yX9_tell, Cond.instanceMethod yX9_tell, Cond.selects RX9 yX9_tell yX9_tell, Cond.code yX9_tell cX9_tell 4 (some .int), Cond.fieldLink RX9 134 "LeafSignerModel" "toldFirst" "J", Cond.fieldLink RX9 137 "LeafSignerModel" "toldSecond" "J", Cond.methodLink RL 72 yX8_verify, Cond.instanceMethod yX8_verify, Cond.selects RX8 yX8_verify yX8_verify, Cond.code yX8_verify cX8_verify 1 (some .int)]
def wsL_law_r20 : List Cond := [Cond.methodLink RX8 189 yX0_carryAllToEnds, Cond.instanceMethod yX0_carryAllToEnds, Cond.selects RX0 yX0_carryAllToEnds yX0_carryAllToEnds, Cond.code yX0_carryAllToEnds cX0_carryAllToEnds 6 none, Cond.fieldLink RX0 62 "LeafSigner$Signature" "parts" "LLeafSigner$Pairs;", Cond.fieldLink RX0 71 "LeafSigner$Signature" "leaf" "I", Cond.fieldLink RX0 75 "LeafSigner$Digits" "values" "[I", Cond.methodLink RX0 67 yX5_copy, Cond.methodLink RX8 193 yX8_climbToRoot, Cond.instanceMethod yX8_climbToRoot, Cond.selects RX8 yX8_climbToRoot yX8_climbToRoot, Cond.code yX8_climbToRoot cX8_climbToRoot 8 none, Cond.methodLink RX8 229 yX2_startNode, Cond.methodLink RX8 196 yX2_gave, Cond.instanceMethod yX2_gave, Cond.selects RX2 yX2_gave yX2_gave, Cond.code yX2_gave cX2_gave 3 (some .boolean), Cond.methodLink RL 75 yX9_verify, Cond.instanceMethod yX9_verify, Cond.selects RX9 yX9_verify yX9_verify, Cond.code yX9_verify cX9_verify 11 (some .int), Cond.methodLink RL 76 yX8_hash, Cond.instanceMethod yX8_hash, Cond.selects RX8 yX8_hash yX8_hash]
def wsL_law_r21 : List Cond := [Cond.code yX8_hash cX8_hash 3 (some .long), Cond.methodLink RL 79 yX9_hash, Cond.instanceMethod yX9_hash, Cond.selects RX9 yX9_hash yX9_hash, Cond.code yX9_hash cX9_hash 4 (some .long), Cond.methodLink RL 80 yX8_count, Cond.instanceMethod yX8_count, Cond.selects RX8 yX8_count yX8_count, Cond.code yX8_count cX8_count 2 (some .int), Cond.fieldLink RX8 213 "LeafSigner$Signature" "size" "I", Cond.methodLink RL 83 yX9_count, Cond.instanceMethod yX9_count, Cond.selects RX9 yX9_count yX9_count, Cond.code yX9_count cX9_count 2 (some .int), Cond.methodLink RL 84 yX8_check, Cond.instanceMethod yX8_check, Cond.selects RX8 yX8_check yX8_check, Cond.code yX8_check cX8_check 4 (some .int), Cond.methodLink RX8 214 yX7_hashNode, Cond.methodLink RL 87 yX9_check, Cond.instanceMethod yX9_check, Cond.selects RX9 yX9_check yX9_check, Cond.code yX9_check cX9_check 4 (some .int)]
def wsL_law : List Cond := (wsL_law_r1 ++ (wsL_law_r2 ++ (wsL_law_r3 ++ (wsL_law_r4 ++ (wsL_law_r5 ++ (wsL_law_r6 ++ (wsL_law_r7 ++ (wsL_law_r8 ++ (wsL_law_r9 ++ (wsL_law_r10 ++ (wsL_law_r11 ++ (wsL_law_r12 ++ (wsL_law_r13 ++ (wsL_law_r14 ++ (wsL_law_r15 ++ (wsL_law_r16 ++ (wsL_law_r17 ++ (wsL_law_r18 ++ (wsL_law_r19 ++ (wsL_law_r20 ++ wsL_law_r21)))))))))))))))))))) ++ wsX80 ++ wsX90 ++ wsX30 ++ wsX20 ++ wsX00 ++ wsX70 ++ wsX40 ++ wsX10 ++ wsX60 ++ wsX50 ++ ([] : List Cond)
abbrev vwCl : List vw_C := [(RX0, TX0, 2), (RX1, TX1, 1), (RX2, TX2, 2), (RX3, TX3, 4), (RX4, TX4, 2), (RX5, TX5, 1), (RX6, TX6, 3), (RX7, TX7, 2), (RX8, TX8, 9), (RX9, TX9, 21)]
end
section
theorem wL_app {a b T : List Cond} (ha : ∀ w ∈ a, w ∈ T) (hb : ∀ w ∈ b, w ∈ T) : ∀ w ∈ a ++ b, w ∈ T := fun w h => (List.mem_append.mp h).elim (ha w) (hb w)
set_option maxRecDepth 20000 in
theorem wsL_law_r1_in : ∀ w ∈ wsL_law_r1, w ∈ lw_tbl := fun w h => (goodIn_p wsL_law_r1 [30, 33] (by decide +kernel) (by decide +kernel) w h).1
set_option maxRecDepth 20000 in
theorem wsL_law_r2_in : ∀ w ∈ wsL_law_r2, w ∈ lw_tbl := fun w h => (goodIn_p wsL_law_r2 [] (by decide +kernel) (by decide +kernel) w h).1
set_option maxRecDepth 20000 in
theorem wsL_law_r3_in : ∀ w ∈ wsL_law_r3, w ∈ lw_tbl := fun w h => (goodIn_p wsL_law_r3 [38, 64, 79, 85, 106] (by decide +kernel) (by decide +kernel) w h).1
set_option maxRecDepth 20000 in
theorem wsL_law_r4_in : ∀ w ∈ wsL_law_r4, w ∈ lw_tbl := fun w h => (goodIn_p wsL_law_r4 [123, 139, 152] (by decide +kernel) (by decide +kernel) w h).1
set_option maxRecDepth 20000 in
theorem wsL_law_r5_in : ∀ w ∈ wsL_law_r5, w ∈ lw_tbl := fun w h => (goodIn_p wsL_law_r5 [437, 204, 208] (by decide +kernel) (by decide +kernel) w h).1
set_option maxRecDepth 20000 in
theorem wsL_law_r6_in : ∀ w ∈ wsL_law_r6, w ∈ lw_tbl := fun w h => (goodIn_p wsL_law_r6 [212, 216, 506, 220] (by decide +kernel) (by decide +kernel) w h).1
set_option maxRecDepth 20000 in
theorem wsL_law_r7_in : ∀ w ∈ wsL_law_r7, w ∈ lw_tbl := fun w h => (goodIn_p wsL_law_r7 [227, 224, 231, 235] (by decide +kernel) (by decide +kernel) w h).1
set_option maxRecDepth 20000 in
theorem wsL_law_r8_in : ∀ w ∈ wsL_law_r8, w ∈ lw_tbl := fun w h => (goodIn_p wsL_law_r8 [239, 243, 246, 252, 256] (by decide +kernel) (by decide +kernel) w h).1
set_option maxRecDepth 20000 in
theorem wsL_law_r9_in : ∀ w ∈ wsL_law_r9, w ∈ lw_tbl := fun w h => (goodIn_p wsL_law_r9 [260, 264, 268, 273, 279, 282] (by decide +kernel) (by decide +kernel) w h).1
set_option maxRecDepth 20000 in
theorem wsL_law_r10_in : ∀ w ∈ wsL_law_r10, w ∈ lw_tbl := fun w h => (goodIn_p wsL_law_r10 [287, 291, 510, 514] (by decide +kernel) (by decide +kernel) w h).1
set_option maxRecDepth 20000 in
theorem wsL_law_r11_in : ∀ w ∈ wsL_law_r11, w ∈ lw_tbl := fun w h => (goodIn_p wsL_law_r11 [518, 522, 526, 529, 535, 540] (by decide +kernel) (by decide +kernel) w h).1
set_option maxRecDepth 20000 in
theorem wsL_law_r12_in : ∀ w ∈ wsL_law_r12, w ∈ lw_tbl := fun w h => (goodIn_p wsL_law_r12 [545, 548, 552, 296, 299] (by decide +kernel) (by decide +kernel) w h).1
set_option maxRecDepth 20000 in
theorem wsL_law_r13_in : ∀ w ∈ wsL_law_r13, w ∈ lw_tbl := fun w h => (goodIn_p wsL_law_r13 [303, 557, 309, 313, 317, 561] (by decide +kernel) (by decide +kernel) w h).1
set_option maxRecDepth 20000 in
theorem wsL_law_r14_in : ∀ w ∈ wsL_law_r14, w ∈ lw_tbl := fun w h => (goodIn_p wsL_law_r14 [321, 325, 565, 329, 333] (by decide +kernel) (by decide +kernel) w h).1
set_option maxRecDepth 20000 in
theorem wsL_law_r15_in : ∀ w ∈ wsL_law_r15, w ∈ lw_tbl := fun w h => (goodIn_p wsL_law_r15 [338, 342, 349, 353] (by decide +kernel) (by decide +kernel) w h).1
set_option maxRecDepth 20000 in
theorem wsL_law_r16_in : ∀ w ∈ wsL_law_r16, w ∈ lw_tbl := fun w h => (goodIn_p wsL_law_r16 [356, 569, 573, 577, 360, 364] (by decide +kernel) (by decide +kernel) w h).1
set_option maxRecDepth 20000 in
theorem wsL_law_r17_in : ∀ w ∈ wsL_law_r17, w ∈ lw_tbl := fun w h => (goodIn_p wsL_law_r17 [370, 582, 376, 586] (by decide +kernel) (by decide +kernel) w h).1
set_option maxRecDepth 20000 in
theorem wsL_law_r18_in : ∀ w ∈ wsL_law_r18, w ∈ lw_tbl := fun w h => (goodIn_p wsL_law_r18 [380, 384, 590, 594, 388, 392] (by decide +kernel) (by decide +kernel) w h).1
set_option maxRecDepth 20000 in
theorem wsL_law_r19_in : ∀ w ∈ wsL_law_r19, w ∈ lw_tbl := fun w h => (goodIn_p wsL_law_r19 [598, 396, 602, 401, 606, 405] (by decide +kernel) (by decide +kernel) w h).1
set_option maxRecDepth 20000 in
theorem wsL_law_r20_in : ∀ w ∈ wsL_law_r20, w ∈ lw_tbl := fun w h => (goodIn_p wsL_law_r20 [409, 414, 419, 610] (by decide +kernel) (by decide +kernel) w h).1
set_option maxRecDepth 20000 in
theorem wsL_law_r21_in : ∀ w ∈ wsL_law_r21, w ∈ lw_tbl := fun w h => (goodIn_p wsL_law_r21 [423, 614, 427, 618, 431, 622] (by decide +kernel) (by decide +kernel) w h).1
set_option maxRecDepth 20000 in
theorem inX8 : ∀ w ∈ wsX80, w ∈ lw_tbl := by decide +kernel
set_option maxRecDepth 20000 in
theorem inX9 : ∀ w ∈ wsX90, w ∈ lw_tbl := by decide +kernel
set_option maxRecDepth 20000 in
theorem inX3 : ∀ w ∈ wsX30, w ∈ lw_tbl := by decide +kernel
set_option maxRecDepth 20000 in
theorem inX2 : ∀ w ∈ wsX20, w ∈ lw_tbl := by decide +kernel
set_option maxRecDepth 20000 in
theorem inX0 : ∀ w ∈ wsX00, w ∈ lw_tbl := by decide +kernel
set_option maxRecDepth 20000 in
theorem inX7 : ∀ w ∈ wsX70, w ∈ lw_tbl := by decide +kernel
set_option maxRecDepth 20000 in
theorem inX4 : ∀ w ∈ wsX40, w ∈ lw_tbl := by decide +kernel
set_option maxRecDepth 20000 in
theorem inX1 : ∀ w ∈ wsX10, w ∈ lw_tbl := by decide +kernel
set_option maxRecDepth 20000 in
theorem inX6 : ∀ w ∈ wsX60, w ∈ lw_tbl := by decide +kernel
set_option maxRecDepth 20000 in
theorem inX5 : ∀ w ∈ wsX50, w ∈ lw_tbl := by decide +kernel
theorem wsL_law_in : ∀ w ∈ wsL_law, w ∈ lw_tbl := wL_app (wL_app (wL_app (wL_app (wL_app (wL_app (wL_app (wL_app (wL_app (wL_app (wL_app (wL_app wsL_law_r1_in (wL_app wsL_law_r2_in (wL_app wsL_law_r3_in (wL_app wsL_law_r4_in (wL_app wsL_law_r5_in (wL_app wsL_law_r6_in (wL_app wsL_law_r7_in (wL_app wsL_law_r8_in (wL_app wsL_law_r9_in (wL_app wsL_law_r10_in (wL_app wsL_law_r11_in (wL_app wsL_law_r12_in (wL_app wsL_law_r13_in (wL_app wsL_law_r14_in (wL_app wsL_law_r15_in (wL_app wsL_law_r16_in (wL_app wsL_law_r17_in (wL_app wsL_law_r18_in (wL_app wsL_law_r19_in (wL_app wsL_law_r20_in wsL_law_r21_in)))))))))))))))))))) inX8) inX9) inX3) inX2) inX0) inX7) inX4) inX1) inX6) inX5) (fun _ h => absurd h List.not_mem_nil)
theorem inlX0 : ∀ w ∈ wsX00, w ∈ wsL_law := fun _ h => List.mem_append_left _ (List.mem_append_left _ (List.mem_append_left _ (List.mem_append_left _ (List.mem_append_left _ (List.mem_append_left _ (List.mem_append_right _ h))))))
theorem inlX1 : ∀ w ∈ wsX10, w ∈ wsL_law := fun _ h => List.mem_append_left _ (List.mem_append_left _ (List.mem_append_left _ (List.mem_append_right _ h)))
theorem inlX2 : ∀ w ∈ wsX20, w ∈ wsL_law := fun _ h => List.mem_append_left _ (List.mem_append_left _ (List.mem_append_left _ (List.mem_append_left _ (List.mem_append_left _ (List.mem_append_left _ (List.mem_append_left _ (List.mem_append_right _ h)))))))
theorem inlX3 : ∀ w ∈ wsX30, w ∈ wsL_law := fun _ h => List.mem_append_left _ (List.mem_append_left _ (List.mem_append_left _ (List.mem_append_left _ (List.mem_append_left _ (List.mem_append_left _ (List.mem_append_left _ (List.mem_append_left _ (List.mem_append_right _ h))))))))
theorem inlX4 : ∀ w ∈ wsX40, w ∈ wsL_law := fun _ h => List.mem_append_left _ (List.mem_append_left _ (List.mem_append_left _ (List.mem_append_left _ (List.mem_append_right _ h))))
theorem inlX5 : ∀ w ∈ wsX50, w ∈ wsL_law := fun _ h => List.mem_append_left _ (List.mem_append_right _ h)
theorem inlX6 : ∀ w ∈ wsX60, w ∈ wsL_law := fun _ h => List.mem_append_left _ (List.mem_append_left _ (List.mem_append_right _ h))
theorem inlX7 : ∀ w ∈ wsX70, w ∈ wsL_law := fun _ h => List.mem_append_left _ (List.mem_append_left _ (List.mem_append_left _ (List.mem_append_left _ (List.mem_append_left _ (List.mem_append_right _ h)))))
theorem inlX8 : ∀ w ∈ wsX80, w ∈ wsL_law := fun _ h => List.mem_append_left _ (List.mem_append_left _ (List.mem_append_left _ (List.mem_append_left _ (List.mem_append_left _ (List.mem_append_left _ (List.mem_append_left _ (List.mem_append_left _ (List.mem_append_left _ (List.mem_append_left _ (List.mem_append_right _ h))))))))))
theorem inlX9 : ∀ w ∈ wsX90, w ∈ wsL_law := fun _ h => List.mem_append_left _ (List.mem_append_left _ (List.mem_append_left _ (List.mem_append_left _ (List.mem_append_left _ (List.mem_append_left _ (List.mem_append_left _ (List.mem_append_left _ (List.mem_append_left _ (List.mem_append_right _ h)))))))))
end
section
set_option maxRecDepth 20000 in
theorem ggX0_init_X5_init : GoodIn wsX0_init wsX5_init := goodIn_r _ [14, 15, 2, 3, 16, 17, 21] (by decide +kernel) (by decide +kernel)
set_option maxRecDepth 20000 in
theorem gX0_init_X5_init : GoodIn wsX0_init (wsX5_init) := ggX0_init_X5_init
set_option maxRecDepth 20000 in
theorem ggX0_init_X2_init : GoodIn wsX0_init wsX2_init := goodIn_r _ [19, 20, 2, 3] (by decide +kernel) (by decide +kernel)
set_option maxRecDepth 20000 in
theorem gX0_init_X2_init_n22 : GoodIn wsX0_init (wsX2_init) := ggX0_init_X2_init
theorem dX0_init_0 : decode cX0_init 0 = .ok (.aload_n 0, 1) := by decide +kernel
theorem dX0_init_1 : decode cX0_init 1 = .ok (.invokespecial 3, 3) := by decide +kernel
theorem dX0_init_4 : decode cX0_init 4 = .ok (.aload_n 0, 1) := by decide +kernel
theorem dX0_init_5 : decode cX0_init 5 = .ok (.new 9, 3) := by decide +kernel
theorem dX0_init_8 : decode cX0_init 8 = .ok (.dup, 1) := by decide +kernel
theorem dX0_init_9 : decode cX0_init 9 = .ok (.bipush 35, 2) := by decide +kernel
theorem dX0_init_11 : decode cX0_init 11 = .ok (.invokespecial 11, 3) := by decide +kernel
theorem dX0_init_14 : decode cX0_init 14 = .ok (.putfield 14, 3) := by decide +kernel
theorem dX0_init_17 : decode cX0_init 17 = .ok (.aload_n 0, 1) := by decide +kernel
theorem dX0_init_18 : decode cX0_init 18 = .ok (.new 20, 3) := by decide +kernel
theorem dX0_init_21 : decode cX0_init 21 = .ok (.dup, 1) := by decide +kernel
theorem dX0_init_22 : decode cX0_init 22 = .ok (.invokespecial 22, 3) := by decide +kernel
theorem dX0_init_25 : decode cX0_init 25 = .ok (.putfield 23, 3) := by decide +kernel
theorem dX0_init_28 : decode cX0_init 28 = .ok (.return_, 1) := by decide +kernel
set_option maxRecDepth 20000 in
theorem ggX0_makeStart_X2_start : GoodIn wsX0_makeStart wsX2_start := goodIn_r _ [8, 9, 10, 36, 37] (by decide +kernel) (by decide +kernel)
set_option maxRecDepth 20000 in
theorem gX0_makeStart_X2_start : GoodIn wsX0_makeStart (wsV RX0 27 RX2 yX2_start wsX2_start) := goodIn_app (goodIn_of _ (by decide +kernel)) ggX0_makeStart_X2_start
set_option maxRecDepth 20000 in
theorem ggX0_makeStart_X2_add : GoodIn wsX0_makeStart wsX2_add := goodIn_r _ [14, 9, 10, 15, 16, 7, 17, 18, 19, 36, 37] (by decide +kernel) (by decide +kernel)
set_option maxRecDepth 20000 in
theorem gX0_makeStart_X2_add : GoodIn wsX0_makeStart (wsV RX0 37 RX2 yX2_add wsX2_add) := goodIn_app (goodIn_of _ (by decide +kernel)) ggX0_makeStart_X2_add
set_option maxRecDepth 20000 in
theorem ggX0_makeStart_X2_giveTo : GoodIn wsX0_makeStart wsX2_giveTo := goodIn_r _ [23, 9, 10, 24, 25, 26, 27, 28, 29, 36, 37, 38] (by decide +kernel) (by decide +kernel)
set_option maxRecDepth 20000 in
theorem gX0_makeStart_X2_giveTo : GoodIn wsX0_makeStart (wsV RX0 44 RX2 yX2_giveTo wsX2_giveTo) := goodIn_app (goodIn_of _ (by decide +kernel)) ggX0_makeStart_X2_giveTo
theorem dX0_makeStart_0 : decode cX0_makeStart 0 = .ok (.aload_n 0, 1) := by decide +kernel
theorem dX0_makeStart_1 : decode cX0_makeStart 1 = .ok (.getfield 23, 3) := by decide +kernel
theorem dX0_makeStart_4 : decode cX0_makeStart 4 = .ok (.iconst 1, 1) := by decide +kernel
theorem dX0_makeStart_5 : decode cX0_makeStart 5 = .ok (.iconst 4, 1) := by decide +kernel
theorem dX0_makeStart_6 : decode cX0_makeStart 6 = .ok (.invokevirtual 27, 3) := by decide +kernel
theorem dX0_makeStart_9 : decode cX0_makeStart 9 = .ok (.aload_n 0, 1) := by decide +kernel
theorem dX0_makeStart_10 : decode cX0_makeStart 10 = .ok (.getfield 23, 3) := by decide +kernel
theorem dX0_makeStart_13 : decode cX0_makeStart 13 = .ok (.aload_n 1, 1) := by decide +kernel
theorem dX0_makeStart_14 : decode cX0_makeStart 14 = .ok (.getfield 31, 3) := by decide +kernel
theorem dX0_makeStart_17 : decode cX0_makeStart 17 = .ok (.invokevirtual 37, 3) := by decide +kernel
theorem dX0_makeStart_20 : decode cX0_makeStart 20 = .ok (.aload_n 0, 1) := by decide +kernel
theorem dX0_makeStart_21 : decode cX0_makeStart 21 = .ok (.getfield 23, 3) := by decide +kernel
theorem dX0_makeStart_24 : decode cX0_makeStart 24 = .ok (.aload_n 1, 1) := by decide +kernel
theorem dX0_makeStart_25 : decode cX0_makeStart 25 = .ok (.getfield 41, 3) := by decide +kernel
theorem dX0_makeStart_28 : decode cX0_makeStart 28 = .ok (.invokevirtual 37, 3) := by decide +kernel
theorem dX0_makeStart_31 : decode cX0_makeStart 31 = .ok (.aload_n 0, 1) := by decide +kernel
theorem dX0_makeStart_32 : decode cX0_makeStart 32 = .ok (.getfield 23, 3) := by decide +kernel
theorem dX0_makeStart_35 : decode cX0_makeStart 35 = .ok (.iload_n 2, 1) := by decide +kernel
theorem dX0_makeStart_36 : decode cX0_makeStart 36 = .ok (.i2l, 1) := by decide +kernel
theorem dX0_makeStart_37 : decode cX0_makeStart 37 = .ok (.invokevirtual 37, 3) := by decide +kernel
theorem dX0_makeStart_40 : decode cX0_makeStart 40 = .ok (.aload_n 0, 1) := by decide +kernel
theorem dX0_makeStart_41 : decode cX0_makeStart 41 = .ok (.getfield 23, 3) := by decide +kernel
theorem dX0_makeStart_44 : decode cX0_makeStart 44 = .ok (.iload_n 3, 1) := by decide +kernel
theorem dX0_makeStart_45 : decode cX0_makeStart 45 = .ok (.i2l, 1) := by decide +kernel
theorem dX0_makeStart_46 : decode cX0_makeStart 46 = .ok (.invokevirtual 37, 3) := by decide +kernel
theorem dX0_makeStart_49 : decode cX0_makeStart 49 = .ok (.aload_n 0, 1) := by decide +kernel
theorem dX0_makeStart_50 : decode cX0_makeStart 50 = .ok (.getfield 23, 3) := by decide +kernel
theorem dX0_makeStart_53 : decode cX0_makeStart 53 = .ok (.aload 4, 2) := by decide +kernel
theorem dX0_makeStart_55 : decode cX0_makeStart 55 = .ok (.iload_n 3, 1) := by decide +kernel
theorem dX0_makeStart_56 : decode cX0_makeStart 56 = .ok (.invokevirtual 44, 3) := by decide +kernel
theorem dX0_makeStart_59 : decode cX0_makeStart 59 = .ok (.return_, 1) := by decide +kernel
set_option maxRecDepth 20000 in
theorem ggX0_carry_X2_start : GoodIn wsX0_carry wsX2_start := goodIn_r _ [6, 7, 8, 39, 40] (by decide +kernel) (by decide +kernel)
set_option maxRecDepth 20000 in
theorem gX0_carry_X2_start : GoodIn wsX0_carry (wsV RX0 27 RX2 yX2_start wsX2_start) := goodIn_app (goodIn_of _ (by decide +kernel)) ggX0_carry_X2_start
set_option maxRecDepth 20000 in
theorem ggX0_carry_X2_add : GoodIn wsX0_carry wsX2_add := goodIn_r _ [12, 7, 8, 13, 14, 5, 15, 16, 17, 39, 40] (by decide +kernel) (by decide +kernel)
set_option maxRecDepth 20000 in
theorem gX0_carry_X2_add : GoodIn wsX0_carry (wsV RX0 37 RX2 yX2_add wsX2_add) := goodIn_app (goodIn_of _ (by decide +kernel)) ggX0_carry_X2_add
set_option maxRecDepth 20000 in
theorem ggX0_carry_X2_addPair : GoodIn wsX0_carry wsX2_addPair := goodIn_r _ [21, 22, 23, 24, 25, 26, 27, 28, 10, 11, 5, 12, 7, 8, 13, 14, 15, 16, 17, 41, 39, 40] (by decide +kernel) (by decide +kernel)
set_option maxRecDepth 20000 in
theorem gX0_carry_X2_addPair : GoodIn wsX0_carry (wsV RX0 48 RX2 yX2_addPair wsX2_addPair) := goodIn_app (goodIn_of _ (by decide +kernel)) ggX0_carry_X2_addPair
set_option maxRecDepth 20000 in
theorem ggX0_carry_X2_giveTo : GoodIn wsX0_carry wsX2_giveTo := goodIn_r _ [32, 7, 8, 33, 34, 35, 25, 36, 27, 39, 40, 41] (by decide +kernel) (by decide +kernel)
set_option maxRecDepth 20000 in
theorem gX0_carry_X2_giveTo : GoodIn wsX0_carry (wsV RX0 44 RX2 yX2_giveTo wsX2_giveTo) := goodIn_app (goodIn_of _ (by decide +kernel)) ggX0_carry_X2_giveTo
theorem dX0_carry_0 : decode cX0_carry 0 = .ok (.iload 5, 2) := by decide +kernel
theorem dX0_carry_2 : decode cX0_carry 2 = .ok (.istore 8, 2) := by decide +kernel
theorem dX0_carry_4 : decode cX0_carry 4 = .ok (.iload 8, 2) := by decide +kernel
theorem dX0_carry_6 : decode cX0_carry 6 = .ok (.iload 6, 2) := by decide +kernel
theorem dX0_carry_8 : decode cX0_carry 8 = .ok (.if_icmp .ge 78, 3) := by decide +kernel
theorem dX0_carry_11 : decode cX0_carry 11 = .ok (.aload_n 0, 1) := by decide +kernel
theorem dX0_carry_12 : decode cX0_carry 12 = .ok (.getfield 23, 3) := by decide +kernel
theorem dX0_carry_15 : decode cX0_carry 15 = .ok (.iconst 2, 1) := by decide +kernel
theorem dX0_carry_16 : decode cX0_carry 16 = .ok (.bipush 6, 2) := by decide +kernel
theorem dX0_carry_18 : decode cX0_carry 18 = .ok (.invokevirtual 27, 3) := by decide +kernel
theorem dX0_carry_21 : decode cX0_carry 21 = .ok (.aload_n 0, 1) := by decide +kernel
theorem dX0_carry_22 : decode cX0_carry 22 = .ok (.getfield 23, 3) := by decide +kernel
theorem dX0_carry_25 : decode cX0_carry 25 = .ok (.lload_n 1, 1) := by decide +kernel
theorem dX0_carry_26 : decode cX0_carry 26 = .ok (.invokevirtual 37, 3) := by decide +kernel
theorem dX0_carry_29 : decode cX0_carry 29 = .ok (.aload_n 0, 1) := by decide +kernel
theorem dX0_carry_30 : decode cX0_carry 30 = .ok (.getfield 23, 3) := by decide +kernel
theorem dX0_carry_33 : decode cX0_carry 33 = .ok (.iload_n 3, 1) := by decide +kernel
theorem dX0_carry_34 : decode cX0_carry 34 = .ok (.i2l, 1) := by decide +kernel
theorem dX0_carry_35 : decode cX0_carry 35 = .ok (.invokevirtual 37, 3) := by decide +kernel
theorem dX0_carry_38 : decode cX0_carry 38 = .ok (.aload_n 0, 1) := by decide +kernel
theorem dX0_carry_39 : decode cX0_carry 39 = .ok (.getfield 23, 3) := by decide +kernel
theorem dX0_carry_42 : decode cX0_carry 42 = .ok (.iload 4, 2) := by decide +kernel
theorem dX0_carry_44 : decode cX0_carry 44 = .ok (.i2l, 1) := by decide +kernel
theorem dX0_carry_45 : decode cX0_carry 45 = .ok (.invokevirtual 37, 3) := by decide +kernel
theorem dX0_carry_48 : decode cX0_carry 48 = .ok (.aload_n 0, 1) := by decide +kernel
theorem dX0_carry_49 : decode cX0_carry 49 = .ok (.getfield 23, 3) := by decide +kernel
theorem dX0_carry_52 : decode cX0_carry 52 = .ok (.iload 8, 2) := by decide +kernel
theorem dX0_carry_54 : decode cX0_carry 54 = .ok (.i2l, 1) := by decide +kernel
theorem dX0_carry_55 : decode cX0_carry 55 = .ok (.invokevirtual 37, 3) := by decide +kernel
theorem dX0_carry_58 : decode cX0_carry 58 = .ok (.aload_n 0, 1) := by decide +kernel
theorem dX0_carry_59 : decode cX0_carry 59 = .ok (.getfield 23, 3) := by decide +kernel
theorem dX0_carry_62 : decode cX0_carry 62 = .ok (.aload 7, 2) := by decide +kernel
theorem dX0_carry_64 : decode cX0_carry 64 = .ok (.iload 4, 2) := by decide +kernel
theorem dX0_carry_66 : decode cX0_carry 66 = .ok (.invokevirtual 48, 3) := by decide +kernel
theorem dX0_carry_69 : decode cX0_carry 69 = .ok (.aload_n 0, 1) := by decide +kernel
theorem dX0_carry_70 : decode cX0_carry 70 = .ok (.getfield 23, 3) := by decide +kernel
theorem dX0_carry_73 : decode cX0_carry 73 = .ok (.aload 7, 2) := by decide +kernel
theorem dX0_carry_75 : decode cX0_carry 75 = .ok (.iload 4, 2) := by decide +kernel
theorem dX0_carry_77 : decode cX0_carry 77 = .ok (.invokevirtual 44, 3) := by decide +kernel
theorem dX0_carry_80 : decode cX0_carry 80 = .ok (.iinc 8 1, 3) := by decide +kernel
theorem dX0_carry_83 : decode cX0_carry 83 = .ok (.goto (-79), 3) := by decide +kernel
theorem dX0_carry_86 : decode cX0_carry 86 = .ok (.return_, 1) := by decide +kernel
set_option maxRecDepth 20000 in
theorem ggX0_makeEnds_X0_makeStart : GoodIn wsX0_makeEnds wsX0_makeStart := goodIn_r _ [7, 8, 9, 10, 11, 12, 13, 14, 15, 16, 17, 18, 19, 20, 21, 22, 23, 24, 25, 26, 27, 28, 29, 30, 31, 32, 33, 34, 35, 36, 50, 51, 52, 53, 54, 55, 56, 57, 58] (by decide +kernel) (by decide +kernel)
set_option maxRecDepth 20000 in
theorem gX0_makeEnds_X0_makeStart : GoodIn wsX0_makeEnds (wsV RX0 51 RX0 yX0_makeStart wsX0_makeStart) := goodIn_app (goodIn_of _ (by decide +kernel)) ggX0_makeEnds_X0_makeStart
set_option maxRecDepth 20000 in
theorem ggX0_makeEnds_X0_carry : GoodIn wsX0_makeEnds wsX0_carry := goodIn_r _ [40, 8, 11, 12, 13, 14, 15, 16, 17, 18, 19, 20, 21, 22, 23, 24, 25, 26, 41, 42, 43, 44, 45, 46, 47, 34, 48, 36, 49, 27, 28, 29, 30, 31, 32, 33, 35, 50, 51, 56, 57, 58] (by decide +kernel) (by decide +kernel)
set_option maxRecDepth 20000 in
theorem gX0_makeEnds_X0_carry : GoodIn wsX0_makeEnds (wsV RX0 58 RX0 yX0_carry wsX0_carry) := goodIn_app (goodIn_of _ (by decide +kernel)) ggX0_makeEnds_X0_carry
theorem dX0_makeEnds_0 : decode cX0_makeEnds 0 = .ok (.iconst 0, 1) := by decide +kernel
theorem dX0_makeEnds_1 : decode cX0_makeEnds 1 = .ok (.istore_n 3, 1) := by decide +kernel
theorem dX0_makeEnds_2 : decode cX0_makeEnds 2 = .ok (.iload_n 3, 1) := by decide +kernel
theorem dX0_makeEnds_3 : decode cX0_makeEnds 3 = .ok (.bipush 35, 2) := by decide +kernel
theorem dX0_makeEnds_5 : decode cX0_makeEnds 5 = .ok (.if_icmp .ge 37, 3) := by decide +kernel
theorem dX0_makeEnds_8 : decode cX0_makeEnds 8 = .ok (.aload_n 0, 1) := by decide +kernel
theorem dX0_makeEnds_9 : decode cX0_makeEnds 9 = .ok (.aload_n 1, 1) := by decide +kernel
theorem dX0_makeEnds_10 : decode cX0_makeEnds 10 = .ok (.iload_n 2, 1) := by decide +kernel
theorem dX0_makeEnds_11 : decode cX0_makeEnds 11 = .ok (.iload_n 3, 1) := by decide +kernel
theorem dX0_makeEnds_12 : decode cX0_makeEnds 12 = .ok (.aload_n 0, 1) := by decide +kernel
theorem dX0_makeEnds_13 : decode cX0_makeEnds 13 = .ok (.getfield 14, 3) := by decide +kernel
theorem dX0_makeEnds_16 : decode cX0_makeEnds 16 = .ok (.invokevirtual 51, 3) := by decide +kernel
theorem dX0_makeEnds_19 : decode cX0_makeEnds 19 = .ok (.aload_n 0, 1) := by decide +kernel
theorem dX0_makeEnds_20 : decode cX0_makeEnds 20 = .ok (.aload_n 1, 1) := by decide +kernel
theorem dX0_makeEnds_21 : decode cX0_makeEnds 21 = .ok (.getfield 55, 3) := by decide +kernel
theorem dX0_makeEnds_24 : decode cX0_makeEnds 24 = .ok (.iload_n 2, 1) := by decide +kernel
theorem dX0_makeEnds_25 : decode cX0_makeEnds 25 = .ok (.iload_n 3, 1) := by decide +kernel
theorem dX0_makeEnds_26 : decode cX0_makeEnds 26 = .ok (.iconst 0, 1) := by decide +kernel
theorem dX0_makeEnds_27 : decode cX0_makeEnds 27 = .ok (.bipush 15, 2) := by decide +kernel
theorem dX0_makeEnds_29 : decode cX0_makeEnds 29 = .ok (.aload_n 0, 1) := by decide +kernel
theorem dX0_makeEnds_30 : decode cX0_makeEnds 30 = .ok (.getfield 14, 3) := by decide +kernel
theorem dX0_makeEnds_33 : decode cX0_makeEnds 33 = .ok (.invokevirtual 58, 3) := by decide +kernel
theorem dX0_makeEnds_36 : decode cX0_makeEnds 36 = .ok (.iinc 3 1, 3) := by decide +kernel
theorem dX0_makeEnds_39 : decode cX0_makeEnds 39 = .ok (.goto (-37), 3) := by decide +kernel
theorem dX0_makeEnds_42 : decode cX0_makeEnds 42 = .ok (.return_, 1) := by decide +kernel
set_option maxRecDepth 20000 in
theorem ggX0_carryAllToEnds_X5_copy : GoodIn wsX0_carryAllToEnds wsX5_copy := goodIn_r _ [9, 10, 11, 12, 8, 13, 14, 15, 16, 17, 18, 58] (by decide +kernel) (by decide +kernel)
set_option maxRecDepth 20000 in
theorem gX0_carryAllToEnds_X5_copy : GoodIn wsX0_carryAllToEnds (wsV RX0 67 RX5 yX5_copy wsX5_copy) := goodIn_app (goodIn_of _ (by decide +kernel)) ggX0_carryAllToEnds_X5_copy
set_option maxRecDepth 20000 in
theorem ggX0_carryAllToEnds_X0_carry : GoodIn wsX0_carryAllToEnds wsX0_carry := goodIn_r _ [23, 24, 25, 26, 27, 28, 29, 30, 31, 32, 33, 34, 35, 36, 37, 38, 39, 40, 41, 42, 43, 44, 45, 11, 12, 8, 13, 14, 46, 47, 48, 49, 50, 51, 16, 17, 18, 52, 53, 59, 60, 58] (by decide +kernel) (by decide +kernel)
set_option maxRecDepth 20000 in
theorem gX0_carryAllToEnds_X0_carry : GoodIn wsX0_carryAllToEnds (wsV RX0 58 RX0 yX0_carry wsX0_carry) := goodIn_app (goodIn_of _ (by decide +kernel)) ggX0_carryAllToEnds_X0_carry
theorem dX0_carryAllToEnds_0 : decode cX0_carryAllToEnds 0 = .ok (.iconst 0, 1) := by decide +kernel
theorem dX0_carryAllToEnds_1 : decode cX0_carryAllToEnds 1 = .ok (.istore 5, 2) := by decide +kernel
theorem dX0_carryAllToEnds_3 : decode cX0_carryAllToEnds 3 = .ok (.iload 5, 2) := by decide +kernel
theorem dX0_carryAllToEnds_5 : decode cX0_carryAllToEnds 5 = .ok (.bipush 35, 2) := by decide +kernel
theorem dX0_carryAllToEnds_7 : decode cX0_carryAllToEnds 7 = .ok (.if_icmp .ge 49, 3) := by decide +kernel
theorem dX0_carryAllToEnds_10 : decode cX0_carryAllToEnds 10 = .ok (.aload_n 0, 1) := by decide +kernel
theorem dX0_carryAllToEnds_11 : decode cX0_carryAllToEnds 11 = .ok (.getfield 14, 3) := by decide +kernel
theorem dX0_carryAllToEnds_14 : decode cX0_carryAllToEnds 14 = .ok (.iload 5, 2) := by decide +kernel
theorem dX0_carryAllToEnds_16 : decode cX0_carryAllToEnds 16 = .ok (.aload_n 3, 1) := by decide +kernel
theorem dX0_carryAllToEnds_17 : decode cX0_carryAllToEnds 17 = .ok (.getfield 62, 3) := by decide +kernel
theorem dX0_carryAllToEnds_20 : decode cX0_carryAllToEnds 20 = .ok (.iload 5, 2) := by decide +kernel
theorem dX0_carryAllToEnds_22 : decode cX0_carryAllToEnds 22 = .ok (.invokevirtual 67, 3) := by decide +kernel
theorem dX0_carryAllToEnds_25 : decode cX0_carryAllToEnds 25 = .ok (.aload_n 0, 1) := by decide +kernel
theorem dX0_carryAllToEnds_26 : decode cX0_carryAllToEnds 26 = .ok (.lload_n 1, 1) := by decide +kernel
theorem dX0_carryAllToEnds_27 : decode cX0_carryAllToEnds 27 = .ok (.aload_n 3, 1) := by decide +kernel
theorem dX0_carryAllToEnds_28 : decode cX0_carryAllToEnds 28 = .ok (.getfield 71, 3) := by decide +kernel
theorem dX0_carryAllToEnds_31 : decode cX0_carryAllToEnds 31 = .ok (.iload 5, 2) := by decide +kernel
theorem dX0_carryAllToEnds_33 : decode cX0_carryAllToEnds 33 = .ok (.aload 4, 2) := by decide +kernel
theorem dX0_carryAllToEnds_35 : decode cX0_carryAllToEnds 35 = .ok (.getfield 75, 3) := by decide +kernel
theorem dX0_carryAllToEnds_38 : decode cX0_carryAllToEnds 38 = .ok (.iload 5, 2) := by decide +kernel
theorem dX0_carryAllToEnds_40 : decode cX0_carryAllToEnds 40 = .ok (.iaload, 1) := by decide +kernel
theorem dX0_carryAllToEnds_41 : decode cX0_carryAllToEnds 41 = .ok (.bipush 15, 2) := by decide +kernel
theorem dX0_carryAllToEnds_43 : decode cX0_carryAllToEnds 43 = .ok (.aload_n 0, 1) := by decide +kernel
theorem dX0_carryAllToEnds_44 : decode cX0_carryAllToEnds 44 = .ok (.getfield 14, 3) := by decide +kernel
theorem dX0_carryAllToEnds_47 : decode cX0_carryAllToEnds 47 = .ok (.invokevirtual 58, 3) := by decide +kernel
theorem dX0_carryAllToEnds_50 : decode cX0_carryAllToEnds 50 = .ok (.iinc 5 1, 3) := by decide +kernel
theorem dX0_carryAllToEnds_53 : decode cX0_carryAllToEnds 53 = .ok (.goto (-50), 3) := by decide +kernel
theorem dX0_carryAllToEnds_56 : decode cX0_carryAllToEnds 56 = .ok (.return_, 1) := by decide +kernel
theorem dX1_init_0 : decode cX1_init 0 = .ok (.aload_n 0, 1) := by decide +kernel
theorem dX1_init_1 : decode cX1_init 1 = .ok (.invokespecial 3, 3) := by decide +kernel
theorem dX1_init_4 : decode cX1_init 4 = .ok (.aload_n 0, 1) := by decide +kernel
theorem dX1_init_5 : decode cX1_init 5 = .ok (.bipush 35, 2) := by decide +kernel
theorem dX1_init_7 : decode cX1_init 7 = .ok (.newarray .int, 2) := by decide +kernel
theorem dX1_init_9 : decode cX1_init 9 = .ok (.putfield 9, 3) := by decide +kernel
theorem dX1_init_12 : decode cX1_init 12 = .ok (.return_, 1) := by decide +kernel
set_option maxRecDepth 20000 in
theorem ggX1_read_X1_fourBits : GoodIn wsX1_read wsX1_fourBits := goodIn_r _ [5] (by decide +kernel) (by decide +kernel)
set_option maxRecDepth 20000 in
theorem gX1_read_X1_fourBits : GoodIn wsX1_read (va_wsS RX1 15 yX1_fourBits wsX1_fourBits) := goodIn_app (goodIn_of _ (by decide +kernel)) ggX1_read_X1_fourBits
theorem dX1_read_0 : decode cX1_read 0 = .ok (.iconst 0, 1) := by decide +kernel
theorem dX1_read_1 : decode cX1_read 1 = .ok (.istore 5, 2) := by decide +kernel
theorem dX1_read_3 : decode cX1_read 3 = .ok (.iconst 0, 1) := by decide +kernel
theorem dX1_read_4 : decode cX1_read 4 = .ok (.istore 6, 2) := by decide +kernel
theorem dX1_read_6 : decode cX1_read 6 = .ok (.iload 6, 2) := by decide +kernel
theorem dX1_read_8 : decode cX1_read 8 = .ok (.bipush 32, 2) := by decide +kernel
theorem dX1_read_10 : decode cX1_read 10 = .ok (.if_icmp .ge 58, 3) := by decide +kernel
theorem dX1_read_13 : decode cX1_read 13 = .ok (.iload 6, 2) := by decide +kernel
theorem dX1_read_15 : decode cX1_read 15 = .ok (.bipush 16, 2) := by decide +kernel
theorem dX1_read_17 : decode cX1_read 17 = .ok (.if_icmp .ge 7, 3) := by decide +kernel
theorem dX1_read_20 : decode cX1_read 20 = .ok (.lload_n 1, 1) := by decide +kernel
theorem dX1_read_21 : decode cX1_read 21 = .ok (.goto 4, 3) := by decide +kernel
theorem dX1_read_24 : decode cX1_read 24 = .ok (.lload_n 3, 1) := by decide +kernel
theorem dX1_read_25 : decode cX1_read 25 = .ok (.lstore 7, 2) := by decide +kernel
theorem dX1_read_27 : decode cX1_read 27 = .ok (.aload_n 0, 1) := by decide +kernel
theorem dX1_read_28 : decode cX1_read 28 = .ok (.getfield 9, 3) := by decide +kernel
theorem dX1_read_31 : decode cX1_read 31 = .ok (.iload 6, 2) := by decide +kernel
theorem dX1_read_33 : decode cX1_read 33 = .ok (.lload 7, 2) := by decide +kernel
theorem dX1_read_35 : decode cX1_read 35 = .ok (.bipush 15, 2) := by decide +kernel
theorem dX1_read_37 : decode cX1_read 37 = .ok (.iload 6, 2) := by decide +kernel
theorem dX1_read_39 : decode cX1_read 39 = .ok (.bipush 16, 2) := by decide +kernel
theorem dX1_read_41 : decode cX1_read 41 = .ok (.irem, 1) := by decide +kernel
theorem dX1_read_42 : decode cX1_read 42 = .ok (.isub, 1) := by decide +kernel
theorem dX1_read_43 : decode cX1_read 43 = .ok (.invokestatic 15, 3) := by decide +kernel
theorem dX1_read_46 : decode cX1_read 46 = .ok (.iastore, 1) := by decide +kernel
theorem dX1_read_47 : decode cX1_read 47 = .ok (.iload 5, 2) := by decide +kernel
theorem dX1_read_49 : decode cX1_read 49 = .ok (.bipush 15, 2) := by decide +kernel
theorem dX1_read_51 : decode cX1_read 51 = .ok (.aload_n 0, 1) := by decide +kernel
theorem dX1_read_52 : decode cX1_read 52 = .ok (.getfield 9, 3) := by decide +kernel
theorem dX1_read_55 : decode cX1_read 55 = .ok (.iload 6, 2) := by decide +kernel
theorem dX1_read_57 : decode cX1_read 57 = .ok (.iaload, 1) := by decide +kernel
theorem dX1_read_58 : decode cX1_read 58 = .ok (.isub, 1) := by decide +kernel
theorem dX1_read_59 : decode cX1_read 59 = .ok (.iadd, 1) := by decide +kernel
theorem dX1_read_60 : decode cX1_read 60 = .ok (.istore 5, 2) := by decide +kernel
theorem dX1_read_62 : decode cX1_read 62 = .ok (.iinc 6 1, 3) := by decide +kernel
theorem dX1_read_65 : decode cX1_read 65 = .ok (.goto (-59), 3) := by decide +kernel
theorem dX1_read_68 : decode cX1_read 68 = .ok (.bipush 32, 2) := by decide +kernel
theorem dX1_read_70 : decode cX1_read 70 = .ok (.istore 6, 2) := by decide +kernel
theorem dX1_read_72 : decode cX1_read 72 = .ok (.iload 6, 2) := by decide +kernel
theorem dX1_read_74 : decode cX1_read 74 = .ok (.bipush 35, 2) := by decide +kernel
theorem dX1_read_76 : decode cX1_read 76 = .ok (.if_icmp .ge 27, 3) := by decide +kernel
theorem dX1_read_79 : decode cX1_read 79 = .ok (.aload_n 0, 1) := by decide +kernel
theorem dX1_read_80 : decode cX1_read 80 = .ok (.getfield 9, 3) := by decide +kernel
theorem dX1_read_83 : decode cX1_read 83 = .ok (.iload 6, 2) := by decide +kernel
theorem dX1_read_85 : decode cX1_read 85 = .ok (.iload 5, 2) := by decide +kernel
theorem dX1_read_87 : decode cX1_read 87 = .ok (.i2l, 1) := by decide +kernel
theorem dX1_read_88 : decode cX1_read 88 = .ok (.bipush 34, 2) := by decide +kernel
theorem dX1_read_90 : decode cX1_read 90 = .ok (.iload 6, 2) := by decide +kernel
theorem dX1_read_92 : decode cX1_read 92 = .ok (.isub, 1) := by decide +kernel
theorem dX1_read_93 : decode cX1_read 93 = .ok (.invokestatic 15, 3) := by decide +kernel
theorem dX1_read_96 : decode cX1_read 96 = .ok (.iastore, 1) := by decide +kernel
theorem dX1_read_97 : decode cX1_read 97 = .ok (.iinc 6 1, 3) := by decide +kernel
theorem dX1_read_100 : decode cX1_read 100 = .ok (.goto (-28), 3) := by decide +kernel
theorem dX1_read_103 : decode cX1_read 103 = .ok (.return_, 1) := by decide +kernel
theorem dX1_fourBits_0 : decode cX1_fourBits 0 = .ok (.lload_n 0, 1) := by decide +kernel
theorem dX1_fourBits_1 : decode cX1_fourBits 1 = .ok (.iconst 4, 1) := by decide +kernel
theorem dX1_fourBits_2 : decode cX1_fourBits 2 = .ok (.iload_n 2, 1) := by decide +kernel
theorem dX1_fourBits_3 : decode cX1_fourBits 3 = .ok (.imul, 1) := by decide +kernel
theorem dX1_fourBits_4 : decode cX1_fourBits 4 = .ok (.lushr, 1) := by decide +kernel
theorem dX1_fourBits_5 : decode cX1_fourBits 5 = .ok (.l2i, 1) := by decide +kernel
theorem dX1_fourBits_6 : decode cX1_fourBits 6 = .ok (.bipush 15, 2) := by decide +kernel
theorem dX1_fourBits_8 : decode cX1_fourBits 8 = .ok (.iand, 1) := by decide +kernel
theorem dX1_fourBits_9 : decode cX1_fourBits 9 = .ok (.ireturn, 1) := by decide +kernel
theorem dX2_init_0 : decode cX2_init 0 = .ok (.aload_n 0, 1) := by decide +kernel
theorem dX2_init_1 : decode cX2_init 1 = .ok (.invokespecial 3, 3) := by decide +kernel
theorem dX2_init_4 : decode cX2_init 4 = .ok (.return_, 1) := by decide +kernel
theorem dX2_start_0 : decode cX2_start 0 = .ok (.aload_n 0, 1) := by decide +kernel
theorem dX2_start_1 : decode cX2_start 1 = .ok (.iload_n 1, 1) := by decide +kernel
theorem dX2_start_2 : decode cX2_start 2 = .ok (.i2l, 1) := by decide +kernel
theorem dX2_start_3 : decode cX2_start 3 = .ok (.putfield 9, 3) := by decide +kernel
theorem dX2_start_6 : decode cX2_start 6 = .ok (.aload_n 0, 1) := by decide +kernel
theorem dX2_start_7 : decode cX2_start 7 = .ok (.iload_n 2, 1) := by decide +kernel
theorem dX2_start_8 : decode cX2_start 8 = .ok (.i2l, 1) := by decide +kernel
theorem dX2_start_9 : decode cX2_start 9 = .ok (.putfield 15, 3) := by decide +kernel
theorem dX2_start_12 : decode cX2_start 12 = .ok (.return_, 1) := by decide +kernel
set_option maxRecDepth 20000 in
theorem ggX2_add_X2_mixed : GoodIn wsX2_add wsX2_mixed := goodIn_r _ [6, 7, 8] (by decide +kernel) (by decide +kernel)
set_option maxRecDepth 20000 in
theorem gX2_add_X2_mixed : GoodIn wsX2_add (va_wsS RX2 18 yX2_mixed wsX2_mixed) := goodIn_app (goodIn_of _ (by decide +kernel)) ggX2_add_X2_mixed
theorem dX2_add_0 : decode cX2_add 0 = .ok (.aload_n 0, 1) := by decide +kernel
theorem dX2_add_1 : decode cX2_add 1 = .ok (.aload_n 0, 1) := by decide +kernel
theorem dX2_add_2 : decode cX2_add 2 = .ok (.getfield 9, 3) := by decide +kernel
theorem dX2_add_5 : decode cX2_add 5 = .ok (.lload_n 1, 1) := by decide +kernel
theorem dX2_add_6 : decode cX2_add 6 = .ok (.lxor, 1) := by decide +kernel
theorem dX2_add_7 : decode cX2_add 7 = .ok (.invokestatic 18, 3) := by decide +kernel
theorem dX2_add_10 : decode cX2_add 10 = .ok (.putfield 9, 3) := by decide +kernel
theorem dX2_add_13 : decode cX2_add 13 = .ok (.aload_n 0, 1) := by decide +kernel
theorem dX2_add_14 : decode cX2_add 14 = .ok (.aload_n 0, 1) := by decide +kernel
theorem dX2_add_15 : decode cX2_add 15 = .ok (.getfield 15, 3) := by decide +kernel
theorem dX2_add_18 : decode cX2_add 18 = .ok (.aload_n 0, 1) := by decide +kernel
theorem dX2_add_19 : decode cX2_add 19 = .ok (.getfield 9, 3) := by decide +kernel
theorem dX2_add_22 : decode cX2_add 22 = .ok (.ladd, 1) := by decide +kernel
theorem dX2_add_23 : decode cX2_add 23 = .ok (.invokestatic 18, 3) := by decide +kernel
theorem dX2_add_26 : decode cX2_add 26 = .ok (.putfield 15, 3) := by decide +kernel
theorem dX2_add_29 : decode cX2_add 29 = .ok (.return_, 1) := by decide +kernel
set_option maxRecDepth 20000 in
theorem ggX2_addPair_X5_at : GoodIn wsX2_addPair wsX5_at := goodIn_r _ [5, 6, 19] (by decide +kernel) (by decide +kernel)
set_option maxRecDepth 20000 in
theorem gX2_addPair_X5_at : GoodIn wsX2_addPair (wsV RX2 22 RX5 yX5_at wsX5_at) := goodIn_app (goodIn_of _ (by decide +kernel)) ggX2_addPair_X5_at
set_option maxRecDepth 20000 in
theorem ggX2_addPair_X2_add : GoodIn wsX2_addPair wsX2_add := goodIn_r _ [11, 12, 13, 14, 15, 10, 16, 17, 18, 20, 21] (by decide +kernel) (by decide +kernel)
set_option maxRecDepth 20000 in
theorem gX2_addPair_X2_add : GoodIn wsX2_addPair (wsV RX2 28 RX2 yX2_add wsX2_add) := goodIn_app (goodIn_of _ (by decide +kernel)) ggX2_addPair_X2_add
theorem dX2_addPair_0 : decode cX2_addPair 0 = .ok (.aload_n 0, 1) := by decide +kernel
theorem dX2_addPair_1 : decode cX2_addPair 1 = .ok (.aload_n 1, 1) := by decide +kernel
theorem dX2_addPair_2 : decode cX2_addPair 2 = .ok (.iload_n 2, 1) := by decide +kernel
theorem dX2_addPair_3 : decode cX2_addPair 3 = .ok (.iconst 0, 1) := by decide +kernel
theorem dX2_addPair_4 : decode cX2_addPair 4 = .ok (.invokevirtual 22, 3) := by decide +kernel
theorem dX2_addPair_7 : decode cX2_addPair 7 = .ok (.invokevirtual 28, 3) := by decide +kernel
theorem dX2_addPair_10 : decode cX2_addPair 10 = .ok (.aload_n 0, 1) := by decide +kernel
theorem dX2_addPair_11 : decode cX2_addPair 11 = .ok (.aload_n 1, 1) := by decide +kernel
theorem dX2_addPair_12 : decode cX2_addPair 12 = .ok (.iload_n 2, 1) := by decide +kernel
theorem dX2_addPair_13 : decode cX2_addPair 13 = .ok (.iconst 1, 1) := by decide +kernel
theorem dX2_addPair_14 : decode cX2_addPair 14 = .ok (.invokevirtual 22, 3) := by decide +kernel
theorem dX2_addPair_17 : decode cX2_addPair 17 = .ok (.invokevirtual 28, 3) := by decide +kernel
theorem dX2_addPair_20 : decode cX2_addPair 20 = .ok (.return_, 1) := by decide +kernel
set_option maxRecDepth 20000 in
theorem ggX2_addMessage_X2_add : GoodIn wsX2_addMessage wsX2_add := goodIn_r _ [7, 8, 9, 10, 11, 6, 12, 13, 14, 17, 18] (by decide +kernel) (by decide +kernel)
set_option maxRecDepth 20000 in
theorem gX2_addMessage_X2_add : GoodIn wsX2_addMessage (wsV RX2 28 RX2 yX2_add wsX2_add) := goodIn_app (goodIn_of _ (by decide +kernel)) ggX2_addMessage_X2_add
theorem dX2_addMessage_0 : decode cX2_addMessage 0 = .ok (.iconst 0, 1) := by decide +kernel
theorem dX2_addMessage_1 : decode cX2_addMessage 1 = .ok (.istore_n 2, 1) := by decide +kernel
theorem dX2_addMessage_2 : decode cX2_addMessage 2 = .ok (.iload_n 2, 1) := by decide +kernel
theorem dX2_addMessage_3 : decode cX2_addMessage 3 = .ok (.aload_n 1, 1) := by decide +kernel
theorem dX2_addMessage_4 : decode cX2_addMessage 4 = .ok (.getfield 32, 3) := by decide +kernel
theorem dX2_addMessage_7 : decode cX2_addMessage 7 = .ok (.if_icmp .ge 19, 3) := by decide +kernel
theorem dX2_addMessage_10 : decode cX2_addMessage 10 = .ok (.aload_n 0, 1) := by decide +kernel
theorem dX2_addMessage_11 : decode cX2_addMessage 11 = .ok (.aload_n 1, 1) := by decide +kernel
theorem dX2_addMessage_12 : decode cX2_addMessage 12 = .ok (.getfield 38, 3) := by decide +kernel
theorem dX2_addMessage_15 : decode cX2_addMessage 15 = .ok (.iload_n 2, 1) := by decide +kernel
theorem dX2_addMessage_16 : decode cX2_addMessage 16 = .ok (.laload, 1) := by decide +kernel
theorem dX2_addMessage_17 : decode cX2_addMessage 17 = .ok (.invokevirtual 28, 3) := by decide +kernel
theorem dX2_addMessage_20 : decode cX2_addMessage 20 = .ok (.iinc 2 1, 3) := by decide +kernel
theorem dX2_addMessage_23 : decode cX2_addMessage 23 = .ok (.goto (-21), 3) := by decide +kernel
theorem dX2_addMessage_26 : decode cX2_addMessage 26 = .ok (.return_, 1) := by decide +kernel
set_option maxRecDepth 20000 in
theorem ggX2_hashLeaf_X2_start : GoodIn wsX2_hashLeaf wsX2_start := goodIn_r _ [5, 6, 7, 27, 28] (by decide +kernel) (by decide +kernel)
set_option maxRecDepth 20000 in
theorem gX2_hashLeaf_X2_start : GoodIn wsX2_hashLeaf (wsV RX2 42 RX2 yX2_start wsX2_start) := goodIn_app (goodIn_of _ (by decide +kernel)) ggX2_hashLeaf_X2_start
set_option maxRecDepth 20000 in
theorem ggX2_hashLeaf_X2_add : GoodIn wsX2_hashLeaf wsX2_add := goodIn_r _ [11, 6, 7, 12, 13, 4, 14, 15, 16, 27, 28] (by decide +kernel) (by decide +kernel)
set_option maxRecDepth 20000 in
theorem gX2_hashLeaf_X2_add : GoodIn wsX2_hashLeaf (wsV RX2 28 RX2 yX2_add wsX2_add) := goodIn_app (goodIn_of _ (by decide +kernel)) ggX2_hashLeaf_X2_add
set_option maxRecDepth 20000 in
theorem ggX2_hashLeaf_X2_addPair : GoodIn wsX2_hashLeaf wsX2_addPair := goodIn_r _ [20, 21, 22, 23, 24, 25, 26, 8, 9, 10, 4, 11, 6, 7, 12, 13, 14, 15, 16, 29, 27, 28] (by decide +kernel) (by decide +kernel)
set_option maxRecDepth 20000 in
theorem gX2_hashLeaf_X2_addPair : GoodIn wsX2_hashLeaf (wsV RX2 46 RX2 yX2_addPair wsX2_addPair) := goodIn_app (goodIn_of _ (by decide +kernel)) ggX2_hashLeaf_X2_addPair
theorem dX2_hashLeaf_0 : decode cX2_hashLeaf 0 = .ok (.aload_n 0, 1) := by decide +kernel
theorem dX2_hashLeaf_1 : decode cX2_hashLeaf 1 = .ok (.iconst 3, 1) := by decide +kernel
theorem dX2_hashLeaf_2 : decode cX2_hashLeaf 2 = .ok (.bipush 72, 2) := by decide +kernel
theorem dX2_hashLeaf_4 : decode cX2_hashLeaf 4 = .ok (.invokevirtual 42, 3) := by decide +kernel
theorem dX2_hashLeaf_7 : decode cX2_hashLeaf 7 = .ok (.aload_n 0, 1) := by decide +kernel
theorem dX2_hashLeaf_8 : decode cX2_hashLeaf 8 = .ok (.lload_n 1, 1) := by decide +kernel
theorem dX2_hashLeaf_9 : decode cX2_hashLeaf 9 = .ok (.invokevirtual 28, 3) := by decide +kernel
theorem dX2_hashLeaf_12 : decode cX2_hashLeaf 12 = .ok (.aload_n 0, 1) := by decide +kernel
theorem dX2_hashLeaf_13 : decode cX2_hashLeaf 13 = .ok (.iload_n 3, 1) := by decide +kernel
theorem dX2_hashLeaf_14 : decode cX2_hashLeaf 14 = .ok (.i2l, 1) := by decide +kernel
theorem dX2_hashLeaf_15 : decode cX2_hashLeaf 15 = .ok (.invokevirtual 28, 3) := by decide +kernel
theorem dX2_hashLeaf_18 : decode cX2_hashLeaf 18 = .ok (.iconst 0, 1) := by decide +kernel
theorem dX2_hashLeaf_19 : decode cX2_hashLeaf 19 = .ok (.istore 5, 2) := by decide +kernel
theorem dX2_hashLeaf_21 : decode cX2_hashLeaf 21 = .ok (.iload 5, 2) := by decide +kernel
theorem dX2_hashLeaf_23 : decode cX2_hashLeaf 23 = .ok (.bipush 35, 2) := by decide +kernel
theorem dX2_hashLeaf_25 : decode cX2_hashLeaf 25 = .ok (.if_icmp .ge 17, 3) := by decide +kernel
theorem dX2_hashLeaf_28 : decode cX2_hashLeaf 28 = .ok (.aload_n 0, 1) := by decide +kernel
theorem dX2_hashLeaf_29 : decode cX2_hashLeaf 29 = .ok (.aload 4, 2) := by decide +kernel
theorem dX2_hashLeaf_31 : decode cX2_hashLeaf 31 = .ok (.iload 5, 2) := by decide +kernel
theorem dX2_hashLeaf_33 : decode cX2_hashLeaf 33 = .ok (.invokevirtual 46, 3) := by decide +kernel
theorem dX2_hashLeaf_36 : decode cX2_hashLeaf 36 = .ok (.iinc 5 1, 3) := by decide +kernel
theorem dX2_hashLeaf_39 : decode cX2_hashLeaf 39 = .ok (.goto (-18), 3) := by decide +kernel
theorem dX2_hashLeaf_42 : decode cX2_hashLeaf 42 = .ok (.return_, 1) := by decide +kernel
set_option maxRecDepth 20000 in
theorem ggX2_startNode_X2_start : GoodIn wsX2_startNode wsX2_start := goodIn_r _ [5, 6, 7, 17, 18] (by decide +kernel) (by decide +kernel)
set_option maxRecDepth 20000 in
theorem gX2_startNode_X2_start : GoodIn wsX2_startNode (wsV RX2 42 RX2 yX2_start wsX2_start) := goodIn_app (goodIn_of _ (by decide +kernel)) ggX2_startNode_X2_start
set_option maxRecDepth 20000 in
theorem ggX2_startNode_X2_add : GoodIn wsX2_startNode wsX2_add := goodIn_r _ [11, 6, 7, 12, 13, 4, 14, 15, 16, 17, 18] (by decide +kernel) (by decide +kernel)
set_option maxRecDepth 20000 in
theorem gX2_startNode_X2_add : GoodIn wsX2_startNode (wsV RX2 28 RX2 yX2_add wsX2_add) := goodIn_app (goodIn_of _ (by decide +kernel)) ggX2_startNode_X2_add
theorem dX2_startNode_0 : decode cX2_startNode 0 = .ok (.aload_n 0, 1) := by decide +kernel
theorem dX2_startNode_1 : decode cX2_startNode 1 = .ok (.iconst 4, 1) := by decide +kernel
theorem dX2_startNode_2 : decode cX2_startNode 2 = .ok (.bipush 7, 2) := by decide +kernel
theorem dX2_startNode_4 : decode cX2_startNode 4 = .ok (.invokevirtual 42, 3) := by decide +kernel
theorem dX2_startNode_7 : decode cX2_startNode 7 = .ok (.aload_n 0, 1) := by decide +kernel
theorem dX2_startNode_8 : decode cX2_startNode 8 = .ok (.lload_n 1, 1) := by decide +kernel
theorem dX2_startNode_9 : decode cX2_startNode 9 = .ok (.invokevirtual 28, 3) := by decide +kernel
theorem dX2_startNode_12 : decode cX2_startNode 12 = .ok (.aload_n 0, 1) := by decide +kernel
theorem dX2_startNode_13 : decode cX2_startNode 13 = .ok (.iload_n 3, 1) := by decide +kernel
theorem dX2_startNode_14 : decode cX2_startNode 14 = .ok (.i2l, 1) := by decide +kernel
theorem dX2_startNode_15 : decode cX2_startNode 15 = .ok (.invokevirtual 28, 3) := by decide +kernel
theorem dX2_startNode_18 : decode cX2_startNode 18 = .ok (.aload_n 0, 1) := by decide +kernel
theorem dX2_startNode_19 : decode cX2_startNode 19 = .ok (.iload 4, 2) := by decide +kernel
theorem dX2_startNode_21 : decode cX2_startNode 21 = .ok (.i2l, 1) := by decide +kernel
theorem dX2_startNode_22 : decode cX2_startNode 22 = .ok (.invokevirtual 28, 3) := by decide +kernel
theorem dX2_startNode_25 : decode cX2_startNode 25 = .ok (.return_, 1) := by decide +kernel
set_option maxRecDepth 20000 in
theorem ggX2_giveTo_X5_put : GoodIn wsX2_giveTo wsX5_put := goodIn_r _ [7, 8, 11] (by decide +kernel) (by decide +kernel)
set_option maxRecDepth 20000 in
theorem gX2_giveTo_X5_put : GoodIn wsX2_giveTo (wsV RX2 50 RX5 yX5_put wsX5_put) := goodIn_app (goodIn_of _ (by decide +kernel)) ggX2_giveTo_X5_put
theorem dX2_giveTo_0 : decode cX2_giveTo 0 = .ok (.aload_n 1, 1) := by decide +kernel
theorem dX2_giveTo_1 : decode cX2_giveTo 1 = .ok (.iload_n 2, 1) := by decide +kernel
theorem dX2_giveTo_2 : decode cX2_giveTo 2 = .ok (.iconst 0, 1) := by decide +kernel
theorem dX2_giveTo_3 : decode cX2_giveTo 3 = .ok (.aload_n 0, 1) := by decide +kernel
theorem dX2_giveTo_4 : decode cX2_giveTo 4 = .ok (.getfield 9, 3) := by decide +kernel
theorem dX2_giveTo_7 : decode cX2_giveTo 7 = .ok (.invokevirtual 50, 3) := by decide +kernel
theorem dX2_giveTo_10 : decode cX2_giveTo 10 = .ok (.aload_n 1, 1) := by decide +kernel
theorem dX2_giveTo_11 : decode cX2_giveTo 11 = .ok (.iload_n 2, 1) := by decide +kernel
theorem dX2_giveTo_12 : decode cX2_giveTo 12 = .ok (.iconst 1, 1) := by decide +kernel
theorem dX2_giveTo_13 : decode cX2_giveTo 13 = .ok (.aload_n 0, 1) := by decide +kernel
theorem dX2_giveTo_14 : decode cX2_giveTo 14 = .ok (.getfield 15, 3) := by decide +kernel
theorem dX2_giveTo_17 : decode cX2_giveTo 17 = .ok (.invokevirtual 50, 3) := by decide +kernel
theorem dX2_giveTo_20 : decode cX2_giveTo 20 = .ok (.return_, 1) := by decide +kernel
set_option maxRecDepth 20000 in
theorem ggX2_gave_X5_at : GoodIn wsX2_gave wsX5_at := goodIn_r _ [7, 8, 11] (by decide +kernel) (by decide +kernel)
set_option maxRecDepth 20000 in
theorem gX2_gave_X5_at : GoodIn wsX2_gave (wsV RX2 22 RX5 yX5_at wsX5_at) := goodIn_app (goodIn_of _ (by decide +kernel)) ggX2_gave_X5_at
theorem dX2_gave_0 : decode cX2_gave 0 = .ok (.aload_n 1, 1) := by decide +kernel
theorem dX2_gave_1 : decode cX2_gave 1 = .ok (.iload_n 2, 1) := by decide +kernel
theorem dX2_gave_2 : decode cX2_gave 2 = .ok (.iconst 0, 1) := by decide +kernel
theorem dX2_gave_3 : decode cX2_gave 3 = .ok (.invokevirtual 22, 3) := by decide +kernel
theorem dX2_gave_6 : decode cX2_gave 6 = .ok (.aload_n 0, 1) := by decide +kernel
theorem dX2_gave_7 : decode cX2_gave 7 = .ok (.getfield 9, 3) := by decide +kernel
theorem dX2_gave_10 : decode cX2_gave 10 = .ok (.lcmp, 1) := by decide +kernel
theorem dX2_gave_11 : decode cX2_gave 11 = .ok (.ifCond .ne 21, 3) := by decide +kernel
theorem dX2_gave_14 : decode cX2_gave 14 = .ok (.aload_n 1, 1) := by decide +kernel
theorem dX2_gave_15 : decode cX2_gave 15 = .ok (.iload_n 2, 1) := by decide +kernel
theorem dX2_gave_16 : decode cX2_gave 16 = .ok (.iconst 1, 1) := by decide +kernel
theorem dX2_gave_17 : decode cX2_gave 17 = .ok (.invokevirtual 22, 3) := by decide +kernel
theorem dX2_gave_20 : decode cX2_gave 20 = .ok (.aload_n 0, 1) := by decide +kernel
theorem dX2_gave_21 : decode cX2_gave 21 = .ok (.getfield 15, 3) := by decide +kernel
theorem dX2_gave_24 : decode cX2_gave 24 = .ok (.lcmp, 1) := by decide +kernel
theorem dX2_gave_25 : decode cX2_gave 25 = .ok (.ifCond .ne 7, 3) := by decide +kernel
theorem dX2_gave_28 : decode cX2_gave 28 = .ok (.iconst 1, 1) := by decide +kernel
theorem dX2_gave_29 : decode cX2_gave 29 = .ok (.goto 4, 3) := by decide +kernel
theorem dX2_gave_32 : decode cX2_gave 32 = .ok (.iconst 0, 1) := by decide +kernel
theorem dX2_gave_33 : decode cX2_gave 33 = .ok (.ireturn, 1) := by decide +kernel
theorem dX2_mixed_0 : decode cX2_mixed 0 = .ok (.lload_n 0, 1) := by decide +kernel
theorem dX2_mixed_1 : decode cX2_mixed 1 = .ok (.lload_n 0, 1) := by decide +kernel
theorem dX2_mixed_2 : decode cX2_mixed 2 = .ok (.bipush 30, 2) := by decide +kernel
theorem dX2_mixed_4 : decode cX2_mixed 4 = .ok (.lushr, 1) := by decide +kernel
theorem dX2_mixed_5 : decode cX2_mixed 5 = .ok (.lxor, 1) := by decide +kernel
theorem dX2_mixed_6 : decode cX2_mixed 6 = .ok (.ldc2_w 54, 3) := by decide +kernel
theorem dX2_mixed_9 : decode cX2_mixed 9 = .ok (.lmul, 1) := by decide +kernel
theorem dX2_mixed_10 : decode cX2_mixed 10 = .ok (.lstore_n 2, 1) := by decide +kernel
theorem dX2_mixed_11 : decode cX2_mixed 11 = .ok (.lload_n 2, 1) := by decide +kernel
theorem dX2_mixed_12 : decode cX2_mixed 12 = .ok (.lload_n 2, 1) := by decide +kernel
theorem dX2_mixed_13 : decode cX2_mixed 13 = .ok (.bipush 27, 2) := by decide +kernel
theorem dX2_mixed_15 : decode cX2_mixed 15 = .ok (.lushr, 1) := by decide +kernel
theorem dX2_mixed_16 : decode cX2_mixed 16 = .ok (.lxor, 1) := by decide +kernel
theorem dX2_mixed_17 : decode cX2_mixed 17 = .ok (.ldc2_w 56, 3) := by decide +kernel
theorem dX2_mixed_20 : decode cX2_mixed 20 = .ok (.lmul, 1) := by decide +kernel
theorem dX2_mixed_21 : decode cX2_mixed 21 = .ok (.lstore 4, 2) := by decide +kernel
theorem dX2_mixed_23 : decode cX2_mixed 23 = .ok (.lload 4, 2) := by decide +kernel
theorem dX2_mixed_25 : decode cX2_mixed 25 = .ok (.lload 4, 2) := by decide +kernel
theorem dX2_mixed_27 : decode cX2_mixed 27 = .ok (.bipush 31, 2) := by decide +kernel
theorem dX2_mixed_29 : decode cX2_mixed 29 = .ok (.lushr, 1) := by decide +kernel
theorem dX2_mixed_30 : decode cX2_mixed 30 = .ok (.lxor, 1) := by decide +kernel
theorem dX2_mixed_31 : decode cX2_mixed 31 = .ok (.lreturn, 1) := by decide +kernel
theorem dX3_init_0 : decode cX3_init 0 = .ok (.aload_n 0, 1) := by decide +kernel
theorem dX3_init_1 : decode cX3_init 1 = .ok (.invokespecial 3, 3) := by decide +kernel
theorem dX3_init_4 : decode cX3_init 4 = .ok (.aload_n 0, 1) := by decide +kernel
theorem dX3_init_5 : decode cX3_init 5 = .ok (.iconst 1, 1) := by decide +kernel
theorem dX3_init_6 : decode cX3_init 6 = .ok (.putfield 9, 3) := by decide +kernel
theorem dX3_init_9 : decode cX3_init 9 = .ok (.return_, 1) := by decide +kernel
theorem dX3_renew_0 : decode cX3_renew 0 = .ok (.aload_n 0, 1) := by decide +kernel
theorem dX3_renew_1 : decode cX3_renew 1 = .ok (.lload_n 1, 1) := by decide +kernel
theorem dX3_renew_2 : decode cX3_renew 2 = .ok (.putfield 15, 3) := by decide +kernel
theorem dX3_renew_5 : decode cX3_renew 5 = .ok (.aload_n 0, 1) := by decide +kernel
theorem dX3_renew_6 : decode cX3_renew 6 = .ok (.lload_n 3, 1) := by decide +kernel
theorem dX3_renew_7 : decode cX3_renew 7 = .ok (.putfield 19, 3) := by decide +kernel
theorem dX3_renew_10 : decode cX3_renew 10 = .ok (.aload_n 0, 1) := by decide +kernel
theorem dX3_renew_11 : decode cX3_renew 11 = .ok (.lload 5, 2) := by decide +kernel
theorem dX3_renew_13 : decode cX3_renew 13 = .ok (.putfield 22, 3) := by decide +kernel
theorem dX3_renew_16 : decode cX3_renew 16 = .ok (.aload_n 0, 1) := by decide +kernel
theorem dX3_renew_17 : decode cX3_renew 17 = .ok (.iload 7, 2) := by decide +kernel
theorem dX3_renew_19 : decode cX3_renew 19 = .ok (.putfield 9, 3) := by decide +kernel
theorem dX3_renew_22 : decode cX3_renew 22 = .ok (.return_, 1) := by decide +kernel
theorem dX3_leaves_0 : decode cX3_leaves 0 = .ok (.iconst 1, 1) := by decide +kernel
theorem dX3_leaves_1 : decode cX3_leaves 1 = .ok (.aload_n 0, 1) := by decide +kernel
theorem dX3_leaves_2 : decode cX3_leaves 2 = .ok (.getfield 9, 3) := by decide +kernel
theorem dX3_leaves_5 : decode cX3_leaves 5 = .ok (.ishl, 1) := by decide +kernel
theorem dX3_leaves_6 : decode cX3_leaves 6 = .ok (.ireturn, 1) := by decide +kernel
set_option maxRecDepth 20000 in
theorem ggX3_hasLeaf_X3_leaves : GoodIn wsX3_hasLeaf wsX3_leaves := goodIn_r _ [5, 6, 7, 8, 9, 10] (by decide +kernel) (by decide +kernel)
set_option maxRecDepth 20000 in
theorem gX3_hasLeaf_X3_leaves : GoodIn wsX3_hasLeaf (wsV RX3 25 RX3 yX3_leaves wsX3_leaves) := goodIn_app (goodIn_of _ (by decide +kernel)) ggX3_hasLeaf_X3_leaves
theorem dX3_hasLeaf_0 : decode cX3_hasLeaf 0 = .ok (.iload_n 1, 1) := by decide +kernel
theorem dX3_hasLeaf_1 : decode cX3_hasLeaf 1 = .ok (.ifCond .lt 15, 3) := by decide +kernel
theorem dX3_hasLeaf_4 : decode cX3_hasLeaf 4 = .ok (.iload_n 1, 1) := by decide +kernel
theorem dX3_hasLeaf_5 : decode cX3_hasLeaf 5 = .ok (.aload_n 0, 1) := by decide +kernel
theorem dX3_hasLeaf_6 : decode cX3_hasLeaf 6 = .ok (.invokevirtual 25, 3) := by decide +kernel
theorem dX3_hasLeaf_9 : decode cX3_hasLeaf 9 = .ok (.if_icmp .ge 7, 3) := by decide +kernel
theorem dX3_hasLeaf_12 : decode cX3_hasLeaf 12 = .ok (.iconst 1, 1) := by decide +kernel
theorem dX3_hasLeaf_13 : decode cX3_hasLeaf 13 = .ok (.goto 4, 3) := by decide +kernel
theorem dX3_hasLeaf_16 : decode cX3_hasLeaf 16 = .ok (.iconst 0, 1) := by decide +kernel
theorem dX3_hasLeaf_17 : decode cX3_hasLeaf 17 = .ok (.ireturn, 1) := by decide +kernel
theorem dX4_init_0 : decode cX4_init 0 = .ok (.aload_n 0, 1) := by decide +kernel
theorem dX4_init_1 : decode cX4_init 1 = .ok (.invokespecial 1, 3) := by decide +kernel
theorem dX4_init_4 : decode cX4_init 4 = .ok (.aload_n 0, 1) := by decide +kernel
theorem dX4_init_5 : decode cX4_init 5 = .ok (.bipush 20, 2) := by decide +kernel
theorem dX4_init_7 : decode cX4_init 7 = .ok (.newarray .long, 2) := by decide +kernel
theorem dX4_init_9 : decode cX4_init 9 = .ok (.putfield 9, 3) := by decide +kernel
theorem dX4_init_12 : decode cX4_init 12 = .ok (.aload_n 0, 1) := by decide +kernel
theorem dX4_init_13 : decode cX4_init 13 = .ok (.iconst 0, 1) := by decide +kernel
theorem dX4_init_14 : decode cX4_init 14 = .ok (.putfield 13, 3) := by decide +kernel
theorem dX4_init_17 : decode cX4_init 17 = .ok (.return_, 1) := by decide +kernel
theorem dX4_isFull_0 : decode cX4_isFull 0 = .ok (.aload_n 0, 1) := by decide +kernel
theorem dX4_isFull_1 : decode cX4_isFull 1 = .ok (.getfield 13, 3) := by decide +kernel
theorem dX4_isFull_4 : decode cX4_isFull 4 = .ok (.bipush 20, 2) := by decide +kernel
theorem dX4_isFull_6 : decode cX4_isFull 6 = .ok (.if_icmp .lt 7, 3) := by decide +kernel
theorem dX4_isFull_9 : decode cX4_isFull 9 = .ok (.iconst 1, 1) := by decide +kernel
theorem dX4_isFull_10 : decode cX4_isFull 10 = .ok (.goto 4, 3) := by decide +kernel
theorem dX4_isFull_13 : decode cX4_isFull 13 = .ok (.iconst 0, 1) := by decide +kernel
theorem dX4_isFull_14 : decode cX4_isFull 14 = .ok (.ireturn, 1) := by decide +kernel
theorem dX4_append_0 : decode cX4_append 0 = .ok (.aload_n 0, 1) := by decide +kernel
theorem dX4_append_1 : decode cX4_append 1 = .ok (.getfield 9, 3) := by decide +kernel
theorem dX4_append_4 : decode cX4_append 4 = .ok (.aload_n 0, 1) := by decide +kernel
theorem dX4_append_5 : decode cX4_append 5 = .ok (.getfield 13, 3) := by decide +kernel
theorem dX4_append_8 : decode cX4_append 8 = .ok (.lload_n 1, 1) := by decide +kernel
theorem dX4_append_9 : decode cX4_append 9 = .ok (.lastore, 1) := by decide +kernel
theorem dX4_append_10 : decode cX4_append 10 = .ok (.aload_n 0, 1) := by decide +kernel
theorem dX4_append_11 : decode cX4_append 11 = .ok (.dup, 1) := by decide +kernel
theorem dX4_append_12 : decode cX4_append 12 = .ok (.getfield 13, 3) := by decide +kernel
theorem dX4_append_15 : decode cX4_append 15 = .ok (.iconst 1, 1) := by decide +kernel
theorem dX4_append_16 : decode cX4_append 16 = .ok (.iadd, 1) := by decide +kernel
theorem dX4_append_17 : decode cX4_append 17 = .ok (.putfield 13, 3) := by decide +kernel
theorem dX4_append_20 : decode cX4_append 20 = .ok (.return_, 1) := by decide +kernel
theorem dX4_clear_0 : decode cX4_clear 0 = .ok (.aload_n 0, 1) := by decide +kernel
theorem dX4_clear_1 : decode cX4_clear 1 = .ok (.iconst 0, 1) := by decide +kernel
theorem dX4_clear_2 : decode cX4_clear 2 = .ok (.putfield 13, 3) := by decide +kernel
theorem dX4_clear_5 : decode cX4_clear 5 = .ok (.return_, 1) := by decide +kernel
theorem dX5_init_0 : decode cX5_init 0 = .ok (.aload_n 0, 1) := by decide +kernel
theorem dX5_init_1 : decode cX5_init 1 = .ok (.invokespecial 1, 3) := by decide +kernel
theorem dX5_init_4 : decode cX5_init 4 = .ok (.aload_n 0, 1) := by decide +kernel
theorem dX5_init_5 : decode cX5_init 5 = .ok (.iconst 2, 1) := by decide +kernel
theorem dX5_init_6 : decode cX5_init 6 = .ok (.iload_n 1, 1) := by decide +kernel
theorem dX5_init_7 : decode cX5_init 7 = .ok (.imul, 1) := by decide +kernel
theorem dX5_init_8 : decode cX5_init 8 = .ok (.newarray .long, 2) := by decide +kernel
theorem dX5_init_10 : decode cX5_init 10 = .ok (.putfield 7, 3) := by decide +kernel
theorem dX5_init_13 : decode cX5_init 13 = .ok (.return_, 1) := by decide +kernel
theorem dX5_at_0 : decode cX5_at 0 = .ok (.aload_n 0, 1) := by decide +kernel
theorem dX5_at_1 : decode cX5_at 1 = .ok (.getfield 7, 3) := by decide +kernel
theorem dX5_at_4 : decode cX5_at 4 = .ok (.iconst 2, 1) := by decide +kernel
theorem dX5_at_5 : decode cX5_at 5 = .ok (.iload_n 1, 1) := by decide +kernel
theorem dX5_at_6 : decode cX5_at 6 = .ok (.imul, 1) := by decide +kernel
theorem dX5_at_7 : decode cX5_at 7 = .ok (.iload_n 2, 1) := by decide +kernel
theorem dX5_at_8 : decode cX5_at 8 = .ok (.iadd, 1) := by decide +kernel
theorem dX5_at_9 : decode cX5_at 9 = .ok (.laload, 1) := by decide +kernel
theorem dX5_at_10 : decode cX5_at 10 = .ok (.lreturn, 1) := by decide +kernel
theorem dX5_put_0 : decode cX5_put 0 = .ok (.aload_n 0, 1) := by decide +kernel
theorem dX5_put_1 : decode cX5_put 1 = .ok (.getfield 7, 3) := by decide +kernel
theorem dX5_put_4 : decode cX5_put 4 = .ok (.iconst 2, 1) := by decide +kernel
theorem dX5_put_5 : decode cX5_put 5 = .ok (.iload_n 1, 1) := by decide +kernel
theorem dX5_put_6 : decode cX5_put 6 = .ok (.imul, 1) := by decide +kernel
theorem dX5_put_7 : decode cX5_put 7 = .ok (.iload_n 2, 1) := by decide +kernel
theorem dX5_put_8 : decode cX5_put 8 = .ok (.iadd, 1) := by decide +kernel
theorem dX5_put_9 : decode cX5_put 9 = .ok (.lload_n 3, 1) := by decide +kernel
theorem dX5_put_10 : decode cX5_put 10 = .ok (.lastore, 1) := by decide +kernel
theorem dX5_put_11 : decode cX5_put 11 = .ok (.return_, 1) := by decide +kernel
set_option maxRecDepth 20000 in
theorem ggX5_copy_X5_at : GoodIn wsX5_copy wsX5_at := goodIn_r _ [5, 6, 11] (by decide +kernel) (by decide +kernel)
set_option maxRecDepth 20000 in
theorem gX5_copy_X5_at : GoodIn wsX5_copy (wsV RX5 13 RX5 yX5_at wsX5_at) := goodIn_app (goodIn_of _ (by decide +kernel)) ggX5_copy_X5_at
set_option maxRecDepth 20000 in
theorem ggX5_copy_X5_put : GoodIn wsX5_copy wsX5_put := goodIn_r _ [10, 6, 11] (by decide +kernel) (by decide +kernel)
set_option maxRecDepth 20000 in
theorem gX5_copy_X5_put : GoodIn wsX5_copy (wsV RX5 17 RX5 yX5_put wsX5_put) := goodIn_app (goodIn_of _ (by decide +kernel)) ggX5_copy_X5_put
theorem dX5_copy_0 : decode cX5_copy 0 = .ok (.aload_n 0, 1) := by decide +kernel
theorem dX5_copy_1 : decode cX5_copy 1 = .ok (.iload_n 1, 1) := by decide +kernel
theorem dX5_copy_2 : decode cX5_copy 2 = .ok (.iconst 0, 1) := by decide +kernel
theorem dX5_copy_3 : decode cX5_copy 3 = .ok (.aload_n 2, 1) := by decide +kernel
theorem dX5_copy_4 : decode cX5_copy 4 = .ok (.iload_n 3, 1) := by decide +kernel
theorem dX5_copy_5 : decode cX5_copy 5 = .ok (.iconst 0, 1) := by decide +kernel
theorem dX5_copy_6 : decode cX5_copy 6 = .ok (.invokevirtual 13, 3) := by decide +kernel
theorem dX5_copy_9 : decode cX5_copy 9 = .ok (.invokevirtual 17, 3) := by decide +kernel
theorem dX5_copy_12 : decode cX5_copy 12 = .ok (.aload_n 0, 1) := by decide +kernel
theorem dX5_copy_13 : decode cX5_copy 13 = .ok (.iload_n 1, 1) := by decide +kernel
theorem dX5_copy_14 : decode cX5_copy 14 = .ok (.iconst 1, 1) := by decide +kernel
theorem dX5_copy_15 : decode cX5_copy 15 = .ok (.aload_n 2, 1) := by decide +kernel
theorem dX5_copy_16 : decode cX5_copy 16 = .ok (.iload_n 3, 1) := by decide +kernel
theorem dX5_copy_17 : decode cX5_copy 17 = .ok (.iconst 1, 1) := by decide +kernel
theorem dX5_copy_18 : decode cX5_copy 18 = .ok (.invokevirtual 13, 3) := by decide +kernel
theorem dX5_copy_21 : decode cX5_copy 21 = .ok (.invokevirtual 17, 3) := by decide +kernel
theorem dX5_copy_24 : decode cX5_copy 24 = .ok (.return_, 1) := by decide +kernel
set_option maxRecDepth 20000 in
theorem ggX6_init_X5_init : GoodIn wsX6_init wsX5_init := goodIn_r _ [12, 13, 2, 3, 14, 15, 16] (by decide +kernel) (by decide +kernel)
set_option maxRecDepth 20000 in
theorem gX6_init_X5_init : GoodIn wsX6_init (wsX5_init) := ggX6_init_X5_init
theorem dX6_init_0 : decode cX6_init 0 = .ok (.aload_n 0, 1) := by decide +kernel
theorem dX6_init_1 : decode cX6_init 1 = .ok (.invokespecial 3, 3) := by decide +kernel
theorem dX6_init_4 : decode cX6_init 4 = .ok (.aload_n 0, 1) := by decide +kernel
theorem dX6_init_5 : decode cX6_init 5 = .ok (.new 9, 3) := by decide +kernel
theorem dX6_init_8 : decode cX6_init 8 = .ok (.dup, 1) := by decide +kernel
theorem dX6_init_9 : decode cX6_init 9 = .ok (.bipush 39, 2) := by decide +kernel
theorem dX6_init_11 : decode cX6_init 11 = .ok (.invokespecial 11, 3) := by decide +kernel
theorem dX6_init_14 : decode cX6_init 14 = .ok (.putfield 14, 3) := by decide +kernel
theorem dX6_init_17 : decode cX6_init 17 = .ok (.aload_n 0, 1) := by decide +kernel
theorem dX6_init_18 : decode cX6_init 18 = .ok (.iconst (-1), 1) := by decide +kernel
theorem dX6_init_19 : decode cX6_init 19 = .ok (.putfield 20, 3) := by decide +kernel
theorem dX6_init_22 : decode cX6_init 22 = .ok (.aload_n 0, 1) := by decide +kernel
theorem dX6_init_23 : decode cX6_init 23 = .ok (.iconst 0, 1) := by decide +kernel
theorem dX6_init_24 : decode cX6_init 24 = .ok (.putfield 24, 3) := by decide +kernel
theorem dX6_init_27 : decode cX6_init 27 = .ok (.return_, 1) := by decide +kernel
theorem dX6_open_0 : decode cX6_open 0 = .ok (.aload_n 0, 1) := by decide +kernel
theorem dX6_open_1 : decode cX6_open 1 = .ok (.iload_n 1, 1) := by decide +kernel
theorem dX6_open_2 : decode cX6_open 2 = .ok (.putfield 20, 3) := by decide +kernel
theorem dX6_open_5 : decode cX6_open 5 = .ok (.aload_n 0, 1) := by decide +kernel
theorem dX6_open_6 : decode cX6_open 6 = .ok (.iload_n 2, 1) := by decide +kernel
theorem dX6_open_7 : decode cX6_open 7 = .ok (.putfield 24, 3) := by decide +kernel
theorem dX6_open_10 : decode cX6_open 10 = .ok (.return_, 1) := by decide +kernel
theorem dX6_clear_0 : decode cX6_clear 0 = .ok (.aload_n 0, 1) := by decide +kernel
theorem dX6_clear_1 : decode cX6_clear 1 = .ok (.iconst (-1), 1) := by decide +kernel
theorem dX6_clear_2 : decode cX6_clear 2 = .ok (.putfield 20, 3) := by decide +kernel
theorem dX6_clear_5 : decode cX6_clear 5 = .ok (.aload_n 0, 1) := by decide +kernel
theorem dX6_clear_6 : decode cX6_clear 6 = .ok (.iconst 0, 1) := by decide +kernel
theorem dX6_clear_7 : decode cX6_clear 7 = .ok (.putfield 24, 3) := by decide +kernel
theorem dX6_clear_10 : decode cX6_clear 10 = .ok (.return_, 1) := by decide +kernel
theorem dX6_isThere_0 : decode cX6_isThere 0 = .ok (.aload_n 0, 1) := by decide +kernel
theorem dX6_isThere_1 : decode cX6_isThere 1 = .ok (.getfield 20, 3) := by decide +kernel
theorem dX6_isThere_4 : decode cX6_isThere 4 = .ok (.iconst (-1), 1) := by decide +kernel
theorem dX6_isThere_5 : decode cX6_isThere 5 = .ok (.if_icmp .eq 7, 3) := by decide +kernel
theorem dX6_isThere_8 : decode cX6_isThere 8 = .ok (.iconst 1, 1) := by decide +kernel
theorem dX6_isThere_9 : decode cX6_isThere 9 = .ok (.goto 4, 3) := by decide +kernel
theorem dX6_isThere_12 : decode cX6_isThere 12 = .ok (.iconst 0, 1) := by decide +kernel
theorem dX6_isThere_13 : decode cX6_isThere 13 = .ok (.ireturn, 1) := by decide +kernel
theorem dX6_hasPart_0 : decode cX6_hasPart 0 = .ok (.iload_n 1, 1) := by decide +kernel
theorem dX6_hasPart_1 : decode cX6_hasPart 1 = .ok (.ifCond .lt 15, 3) := by decide +kernel
theorem dX6_hasPart_4 : decode cX6_hasPart 4 = .ok (.iload_n 1, 1) := by decide +kernel
theorem dX6_hasPart_5 : decode cX6_hasPart 5 = .ok (.aload_n 0, 1) := by decide +kernel
theorem dX6_hasPart_6 : decode cX6_hasPart 6 = .ok (.getfield 24, 3) := by decide +kernel
theorem dX6_hasPart_9 : decode cX6_hasPart 9 = .ok (.if_icmp .ge 7, 3) := by decide +kernel
theorem dX6_hasPart_12 : decode cX6_hasPart 12 = .ok (.iconst 1, 1) := by decide +kernel
theorem dX6_hasPart_13 : decode cX6_hasPart 13 = .ok (.goto 4, 3) := by decide +kernel
theorem dX6_hasPart_16 : decode cX6_hasPart 16 = .ok (.iconst 0, 1) := by decide +kernel
theorem dX6_hasPart_17 : decode cX6_hasPart 17 = .ok (.ireturn, 1) := by decide +kernel
set_option maxRecDepth 20000 in
theorem ggX7_init_X5_init : GoodIn wsX7_init wsX5_init := goodIn_r _ [11, 12, 2, 3, 13, 14, 15] (by decide +kernel) (by decide +kernel)
set_option maxRecDepth 20000 in
theorem gX7_init_X5_init : GoodIn wsX7_init (wsX5_init) := ggX7_init_X5_init
theorem dX7_init_0 : decode cX7_init 0 = .ok (.aload_n 0, 1) := by decide +kernel
theorem dX7_init_1 : decode cX7_init 1 = .ok (.invokespecial 3, 3) := by decide +kernel
theorem dX7_init_4 : decode cX7_init 4 = .ok (.aload_n 0, 1) := by decide +kernel
theorem dX7_init_5 : decode cX7_init 5 = .ok (.new 9, 3) := by decide +kernel
theorem dX7_init_8 : decode cX7_init 8 = .ok (.dup, 1) := by decide +kernel
theorem dX7_init_9 : decode cX7_init 9 = .ok (.bipush 32, 2) := by decide +kernel
theorem dX7_init_11 : decode cX7_init 11 = .ok (.invokespecial 11, 3) := by decide +kernel
theorem dX7_init_14 : decode cX7_init 14 = .ok (.putfield 14, 3) := by decide +kernel
theorem dX7_init_17 : decode cX7_init 17 = .ok (.aload_n 0, 1) := by decide +kernel
theorem dX7_init_18 : decode cX7_init 18 = .ok (.iconst 0, 1) := by decide +kernel
theorem dX7_init_19 : decode cX7_init 19 = .ok (.putfield 20, 3) := by decide +kernel
theorem dX7_init_22 : decode cX7_init 22 = .ok (.return_, 1) := by decide +kernel
theorem dX7_slot_0 : decode cX7_slot 0 = .ok (.iconst 1, 1) := by decide +kernel
theorem dX7_slot_1 : decode cX7_slot 1 = .ok (.iload_n 0, 1) := by decide +kernel
theorem dX7_slot_2 : decode cX7_slot 2 = .ok (.iload_n 1, 1) := by decide +kernel
theorem dX7_slot_3 : decode cX7_slot 3 = .ok (.isub, 1) := by decide +kernel
theorem dX7_slot_4 : decode cX7_slot 4 = .ok (.ishl, 1) := by decide +kernel
theorem dX7_slot_5 : decode cX7_slot 5 = .ok (.iload_n 2, 1) := by decide +kernel
theorem dX7_slot_6 : decode cX7_slot 6 = .ok (.iadd, 1) := by decide +kernel
theorem dX7_slot_7 : decode cX7_slot 7 = .ok (.ireturn, 1) := by decide +kernel
theorem dX7_clear_0 : decode cX7_clear 0 = .ok (.aload_n 0, 1) := by decide +kernel
theorem dX7_clear_1 : decode cX7_clear 1 = .ok (.iconst 0, 1) := by decide +kernel
theorem dX7_clear_2 : decode cX7_clear 2 = .ok (.putfield 20, 3) := by decide +kernel
theorem dX7_clear_5 : decode cX7_clear 5 = .ok (.return_, 1) := by decide +kernel
theorem dX7_isMade_0 : decode cX7_isMade 0 = .ok (.iload_n 2, 1) := by decide +kernel
theorem dX7_isMade_1 : decode cX7_isMade 1 = .ok (.ifCond .lt 26, 3) := by decide +kernel
theorem dX7_isMade_4 : decode cX7_isMade 4 = .ok (.iload_n 2, 1) := by decide +kernel
theorem dX7_isMade_5 : decode cX7_isMade 5 = .ok (.iload_n 1, 1) := by decide +kernel
theorem dX7_isMade_6 : decode cX7_isMade 6 = .ok (.if_icmp .gt 21, 3) := by decide +kernel
theorem dX7_isMade_9 : decode cX7_isMade 9 = .ok (.iload_n 3, 1) := by decide +kernel
theorem dX7_isMade_10 : decode cX7_isMade 10 = .ok (.ifCond .lt 17, 3) := by decide +kernel
theorem dX7_isMade_13 : decode cX7_isMade 13 = .ok (.iload_n 3, 1) := by decide +kernel
theorem dX7_isMade_14 : decode cX7_isMade 14 = .ok (.aload_n 0, 1) := by decide +kernel
theorem dX7_isMade_15 : decode cX7_isMade 15 = .ok (.getfield 20, 3) := by decide +kernel
theorem dX7_isMade_18 : decode cX7_isMade 18 = .ok (.iload_n 2, 1) := by decide +kernel
theorem dX7_isMade_19 : decode cX7_isMade 19 = .ok (.ishr, 1) := by decide +kernel
theorem dX7_isMade_20 : decode cX7_isMade 20 = .ok (.if_icmp .ge 7, 3) := by decide +kernel
theorem dX7_isMade_23 : decode cX7_isMade 23 = .ok (.iconst 1, 1) := by decide +kernel
theorem dX7_isMade_24 : decode cX7_isMade 24 = .ok (.goto 4, 3) := by decide +kernel
theorem dX7_isMade_27 : decode cX7_isMade 27 = .ok (.iconst 0, 1) := by decide +kernel
theorem dX7_isMade_28 : decode cX7_isMade 28 = .ok (.ireturn, 1) := by decide +kernel
set_option maxRecDepth 20000 in
theorem ggX7_addLeaf_X7_slot : GoodIn wsX7_addLeaf wsX7_slot := goodIn_r _ [7] (by decide +kernel) (by decide +kernel)
set_option maxRecDepth 20000 in
theorem gX7_addLeaf_X7_slot : GoodIn wsX7_addLeaf (va_wsS RX7 29 yX7_slot wsX7_slot) := goodIn_app (goodIn_of _ (by decide +kernel)) ggX7_addLeaf_X7_slot
set_option maxRecDepth 20000 in
theorem ggX7_addLeaf_X2_giveTo : GoodIn wsX7_addLeaf wsX2_giveTo := goodIn_r _ [12, 13, 14, 15, 16, 17, 18, 19, 20, 57, 58, 59] (by decide +kernel) (by decide +kernel)
set_option maxRecDepth 20000 in
theorem gX7_addLeaf_X2_giveTo : GoodIn wsX7_addLeaf (wsV RX7 33 RX2 yX2_giveTo wsX2_giveTo) := goodIn_app (goodIn_of _ (by decide +kernel)) ggX7_addLeaf_X2_giveTo
set_option maxRecDepth 20000 in
theorem ggX7_addLeaf_X7_hashNode : GoodIn wsX7_addLeaf wsX7_hashNode := goodIn_r _ [24, 25, 1, 2, 26, 27, 28, 11, 29, 30, 31, 32, 33, 13, 14, 34, 35, 36, 37, 38, 39, 40, 41, 42, 4, 5, 6, 7, 43, 44, 45, 46, 47, 48, 49, 18, 50, 20, 53, 54, 55, 56, 51, 52, 57, 58, 59] (by decide +kernel) (by decide +kernel)
set_option maxRecDepth 20000 in
theorem gX7_addLeaf_X7_hashNode : GoodIn wsX7_addLeaf (wsV RX7 39 RX7 yX7_hashNode wsX7_hashNode) := goodIn_app (goodIn_of _ (by decide +kernel)) ggX7_addLeaf_X7_hashNode
theorem dX7_addLeaf_0 : decode cX7_addLeaf 0 = .ok (.aload_n 2, 1) := by decide +kernel
theorem dX7_addLeaf_1 : decode cX7_addLeaf 1 = .ok (.aload_n 0, 1) := by decide +kernel
theorem dX7_addLeaf_2 : decode cX7_addLeaf 2 = .ok (.getfield 14, 3) := by decide +kernel
theorem dX7_addLeaf_5 : decode cX7_addLeaf 5 = .ok (.aload_n 1, 1) := by decide +kernel
theorem dX7_addLeaf_6 : decode cX7_addLeaf 6 = .ok (.getfield 24, 3) := by decide +kernel
theorem dX7_addLeaf_9 : decode cX7_addLeaf 9 = .ok (.iconst 0, 1) := by decide +kernel
theorem dX7_addLeaf_10 : decode cX7_addLeaf 10 = .ok (.aload_n 0, 1) := by decide +kernel
theorem dX7_addLeaf_11 : decode cX7_addLeaf 11 = .ok (.getfield 20, 3) := by decide +kernel
theorem dX7_addLeaf_14 : decode cX7_addLeaf 14 = .ok (.invokestatic 29, 3) := by decide +kernel
theorem dX7_addLeaf_17 : decode cX7_addLeaf 17 = .ok (.invokevirtual 33, 3) := by decide +kernel
theorem dX7_addLeaf_20 : decode cX7_addLeaf 20 = .ok (.aload_n 0, 1) := by decide +kernel
theorem dX7_addLeaf_21 : decode cX7_addLeaf 21 = .ok (.dup, 1) := by decide +kernel
theorem dX7_addLeaf_22 : decode cX7_addLeaf 22 = .ok (.getfield 20, 3) := by decide +kernel
theorem dX7_addLeaf_25 : decode cX7_addLeaf 25 = .ok (.iconst 1, 1) := by decide +kernel
theorem dX7_addLeaf_26 : decode cX7_addLeaf 26 = .ok (.iadd, 1) := by decide +kernel
theorem dX7_addLeaf_27 : decode cX7_addLeaf 27 = .ok (.putfield 20, 3) := by decide +kernel
theorem dX7_addLeaf_30 : decode cX7_addLeaf 30 = .ok (.iconst 1, 1) := by decide +kernel
theorem dX7_addLeaf_31 : decode cX7_addLeaf 31 = .ok (.istore_n 3, 1) := by decide +kernel
theorem dX7_addLeaf_32 : decode cX7_addLeaf 32 = .ok (.iload_n 3, 1) := by decide +kernel
theorem dX7_addLeaf_33 : decode cX7_addLeaf 33 = .ok (.aload_n 1, 1) := by decide +kernel
theorem dX7_addLeaf_34 : decode cX7_addLeaf 34 = .ok (.getfield 24, 3) := by decide +kernel
theorem dX7_addLeaf_37 : decode cX7_addLeaf 37 = .ok (.if_icmp .gt 66, 3) := by decide +kernel
theorem dX7_addLeaf_40 : decode cX7_addLeaf 40 = .ok (.iconst 1, 1) := by decide +kernel
theorem dX7_addLeaf_41 : decode cX7_addLeaf 41 = .ok (.iload_n 3, 1) := by decide +kernel
theorem dX7_addLeaf_42 : decode cX7_addLeaf 42 = .ok (.ishl, 1) := by decide +kernel
theorem dX7_addLeaf_43 : decode cX7_addLeaf 43 = .ok (.istore 4, 2) := by decide +kernel
theorem dX7_addLeaf_45 : decode cX7_addLeaf 45 = .ok (.aload_n 0, 1) := by decide +kernel
theorem dX7_addLeaf_46 : decode cX7_addLeaf 46 = .ok (.getfield 20, 3) := by decide +kernel
theorem dX7_addLeaf_49 : decode cX7_addLeaf 49 = .ok (.iload 4, 2) := by decide +kernel
theorem dX7_addLeaf_51 : decode cX7_addLeaf 51 = .ok (.iconst 1, 1) := by decide +kernel
theorem dX7_addLeaf_52 : decode cX7_addLeaf 52 = .ok (.isub, 1) := by decide +kernel
theorem dX7_addLeaf_53 : decode cX7_addLeaf 53 = .ok (.iand, 1) := by decide +kernel
theorem dX7_addLeaf_54 : decode cX7_addLeaf 54 = .ok (.ifCond .eq 6, 3) := by decide +kernel
theorem dX7_addLeaf_57 : decode cX7_addLeaf 57 = .ok (.goto 46, 3) := by decide +kernel
theorem dX7_addLeaf_60 : decode cX7_addLeaf 60 = .ok (.aload_n 0, 1) := by decide +kernel
theorem dX7_addLeaf_61 : decode cX7_addLeaf 61 = .ok (.getfield 20, 3) := by decide +kernel
theorem dX7_addLeaf_64 : decode cX7_addLeaf 64 = .ok (.iload_n 3, 1) := by decide +kernel
theorem dX7_addLeaf_65 : decode cX7_addLeaf 65 = .ok (.ishr, 1) := by decide +kernel
theorem dX7_addLeaf_66 : decode cX7_addLeaf 66 = .ok (.iconst 1, 1) := by decide +kernel
theorem dX7_addLeaf_67 : decode cX7_addLeaf 67 = .ok (.isub, 1) := by decide +kernel
theorem dX7_addLeaf_68 : decode cX7_addLeaf 68 = .ok (.istore 5, 2) := by decide +kernel
theorem dX7_addLeaf_70 : decode cX7_addLeaf 70 = .ok (.aload_n 0, 1) := by decide +kernel
theorem dX7_addLeaf_71 : decode cX7_addLeaf 71 = .ok (.aload_n 1, 1) := by decide +kernel
theorem dX7_addLeaf_72 : decode cX7_addLeaf 72 = .ok (.iload_n 3, 1) := by decide +kernel
theorem dX7_addLeaf_73 : decode cX7_addLeaf 73 = .ok (.iload 5, 2) := by decide +kernel
theorem dX7_addLeaf_75 : decode cX7_addLeaf 75 = .ok (.aload_n 2, 1) := by decide +kernel
theorem dX7_addLeaf_76 : decode cX7_addLeaf 76 = .ok (.invokevirtual 39, 3) := by decide +kernel
theorem dX7_addLeaf_79 : decode cX7_addLeaf 79 = .ok (.aload_n 2, 1) := by decide +kernel
theorem dX7_addLeaf_80 : decode cX7_addLeaf 80 = .ok (.aload_n 0, 1) := by decide +kernel
theorem dX7_addLeaf_81 : decode cX7_addLeaf 81 = .ok (.getfield 14, 3) := by decide +kernel
theorem dX7_addLeaf_84 : decode cX7_addLeaf 84 = .ok (.aload_n 1, 1) := by decide +kernel
theorem dX7_addLeaf_85 : decode cX7_addLeaf 85 = .ok (.getfield 24, 3) := by decide +kernel
theorem dX7_addLeaf_88 : decode cX7_addLeaf 88 = .ok (.iload_n 3, 1) := by decide +kernel
theorem dX7_addLeaf_89 : decode cX7_addLeaf 89 = .ok (.iload 5, 2) := by decide +kernel
theorem dX7_addLeaf_91 : decode cX7_addLeaf 91 = .ok (.invokestatic 29, 3) := by decide +kernel
theorem dX7_addLeaf_94 : decode cX7_addLeaf 94 = .ok (.invokevirtual 33, 3) := by decide +kernel
theorem dX7_addLeaf_97 : decode cX7_addLeaf 97 = .ok (.iinc 3 1, 3) := by decide +kernel
theorem dX7_addLeaf_100 : decode cX7_addLeaf 100 = .ok (.goto (-68), 3) := by decide +kernel
theorem dX7_addLeaf_103 : decode cX7_addLeaf 103 = .ok (.return_, 1) := by decide +kernel
set_option maxRecDepth 20000 in
theorem ggX7_hashNode_X2_startNode : GoodIn wsX7_hashNode wsX2_startNode := goodIn_r _ [8, 9, 10, 11, 7, 12, 13, 14, 15, 16, 17, 18, 19, 20, 21, 22, 23, 44, 45] (by decide +kernel) (by decide +kernel)
set_option maxRecDepth 20000 in
theorem gX7_hashNode_X2_startNode : GoodIn wsX7_hashNode (wsV RX7 47 RX2 yX2_startNode wsX2_startNode) := goodIn_app (goodIn_of _ (by decide +kernel)) ggX7_hashNode_X2_startNode
set_option maxRecDepth 20000 in
theorem ggX7_hashNode_X7_slot : GoodIn wsX7_hashNode wsX7_slot := goodIn_r _ [27] (by decide +kernel) (by decide +kernel)
set_option maxRecDepth 20000 in
theorem gX7_hashNode_X7_slot : GoodIn wsX7_hashNode (va_wsS RX7 29 yX7_slot wsX7_slot) := goodIn_app (goodIn_of _ (by decide +kernel)) ggX7_hashNode_X7_slot
set_option maxRecDepth 20000 in
theorem ggX7_hashNode_X2_addPair : GoodIn wsX7_hashNode wsX2_addPair := goodIn_r _ [31, 32, 33, 34, 35, 36, 37, 15, 16, 17, 7, 18, 13, 14, 19, 20, 21, 22, 23, 46, 44, 45] (by decide +kernel) (by decide +kernel)
set_option maxRecDepth 20000 in
theorem gX7_hashNode_X2_addPair : GoodIn wsX7_hashNode (wsV RX7 51 RX2 yX2_addPair wsX2_addPair) := goodIn_app (goodIn_of _ (by decide +kernel)) ggX7_hashNode_X2_addPair
theorem dX7_hashNode_0 : decode cX7_hashNode 0 = .ok (.aload 4, 2) := by decide +kernel
theorem dX7_hashNode_2 : decode cX7_hashNode 2 = .ok (.aload_n 1, 1) := by decide +kernel
theorem dX7_hashNode_3 : decode cX7_hashNode 3 = .ok (.getfield 43, 3) := by decide +kernel
theorem dX7_hashNode_6 : decode cX7_hashNode 6 = .ok (.iload_n 2, 1) := by decide +kernel
theorem dX7_hashNode_7 : decode cX7_hashNode 7 = .ok (.iload_n 3, 1) := by decide +kernel
theorem dX7_hashNode_8 : decode cX7_hashNode 8 = .ok (.invokevirtual 47, 3) := by decide +kernel
theorem dX7_hashNode_11 : decode cX7_hashNode 11 = .ok (.aload 4, 2) := by decide +kernel
theorem dX7_hashNode_13 : decode cX7_hashNode 13 = .ok (.aload_n 0, 1) := by decide +kernel
theorem dX7_hashNode_14 : decode cX7_hashNode 14 = .ok (.getfield 14, 3) := by decide +kernel
theorem dX7_hashNode_17 : decode cX7_hashNode 17 = .ok (.aload_n 1, 1) := by decide +kernel
theorem dX7_hashNode_18 : decode cX7_hashNode 18 = .ok (.getfield 24, 3) := by decide +kernel
theorem dX7_hashNode_21 : decode cX7_hashNode 21 = .ok (.iload_n 2, 1) := by decide +kernel
theorem dX7_hashNode_22 : decode cX7_hashNode 22 = .ok (.iconst 1, 1) := by decide +kernel
theorem dX7_hashNode_23 : decode cX7_hashNode 23 = .ok (.isub, 1) := by decide +kernel
theorem dX7_hashNode_24 : decode cX7_hashNode 24 = .ok (.iconst 2, 1) := by decide +kernel
theorem dX7_hashNode_25 : decode cX7_hashNode 25 = .ok (.iload_n 3, 1) := by decide +kernel
theorem dX7_hashNode_26 : decode cX7_hashNode 26 = .ok (.imul, 1) := by decide +kernel
theorem dX7_hashNode_27 : decode cX7_hashNode 27 = .ok (.invokestatic 29, 3) := by decide +kernel
theorem dX7_hashNode_30 : decode cX7_hashNode 30 = .ok (.invokevirtual 51, 3) := by decide +kernel
theorem dX7_hashNode_33 : decode cX7_hashNode 33 = .ok (.aload 4, 2) := by decide +kernel
theorem dX7_hashNode_35 : decode cX7_hashNode 35 = .ok (.aload_n 0, 1) := by decide +kernel
theorem dX7_hashNode_36 : decode cX7_hashNode 36 = .ok (.getfield 14, 3) := by decide +kernel
theorem dX7_hashNode_39 : decode cX7_hashNode 39 = .ok (.aload_n 1, 1) := by decide +kernel
theorem dX7_hashNode_40 : decode cX7_hashNode 40 = .ok (.getfield 24, 3) := by decide +kernel
theorem dX7_hashNode_43 : decode cX7_hashNode 43 = .ok (.iload_n 2, 1) := by decide +kernel
theorem dX7_hashNode_44 : decode cX7_hashNode 44 = .ok (.iconst 1, 1) := by decide +kernel
theorem dX7_hashNode_45 : decode cX7_hashNode 45 = .ok (.isub, 1) := by decide +kernel
theorem dX7_hashNode_46 : decode cX7_hashNode 46 = .ok (.iconst 2, 1) := by decide +kernel
theorem dX7_hashNode_47 : decode cX7_hashNode 47 = .ok (.iload_n 3, 1) := by decide +kernel
theorem dX7_hashNode_48 : decode cX7_hashNode 48 = .ok (.imul, 1) := by decide +kernel
theorem dX7_hashNode_49 : decode cX7_hashNode 49 = .ok (.iconst 1, 1) := by decide +kernel
theorem dX7_hashNode_50 : decode cX7_hashNode 50 = .ok (.iadd, 1) := by decide +kernel
theorem dX7_hashNode_51 : decode cX7_hashNode 51 = .ok (.invokestatic 29, 3) := by decide +kernel
theorem dX7_hashNode_54 : decode cX7_hashNode 54 = .ok (.invokevirtual 51, 3) := by decide +kernel
theorem dX7_hashNode_57 : decode cX7_hashNode 57 = .ok (.return_, 1) := by decide +kernel
end
section
set_option maxRecDepth 20000 in
theorem ggX8_init_X3_init : GoodIn wsX8_init wsX3_init := goodIn_r _ [39, 40, 2, 3, 41, 89, 90, 91, 92] (by decide +kernel) (by decide +kernel)
set_option maxRecDepth 20000 in
theorem gX8_init_X3_init : GoodIn wsX8_init (wsX3_init) := ggX8_init_X3_init
set_option maxRecDepth 20000 in
theorem ggX8_init_X2_init : GoodIn wsX8_init wsX2_init := goodIn_r _ [43, 44, 2, 3] (by decide +kernel) (by decide +kernel)
set_option maxRecDepth 20000 in
theorem gX8_init_X2_init_n18 : GoodIn wsX8_init (wsX2_init) := ggX8_init_X2_init
set_option maxRecDepth 20000 in
theorem ggX8_init_X0_init : GoodIn wsX8_init wsX0_init := goodIn_r _ [47, 48, 2, 3, 49, 33, 34, 50, 51, 9, 10, 52, 53, 54, 55, 56, 57, 58, 42, 43, 44, 114, 104, 105, 102, 103] (by decide +kernel) (by decide +kernel)
set_option maxRecDepth 20000 in
theorem gX8_init_X0_init : GoodIn wsX8_init (wsX0_init) := ggX8_init_X0_init
set_option maxRecDepth 20000 in
theorem ggX8_init_X7_init : GoodIn wsX8_init wsX7_init := goodIn_r _ [61, 62, 2, 3, 63, 33, 34, 64, 65, 66, 54, 55, 56, 57, 58, 114, 106, 107] (by decide +kernel) (by decide +kernel)
set_option maxRecDepth 20000 in
theorem gX8_init_X7_init : GoodIn wsX8_init (wsX7_init) := ggX8_init_X7_init
set_option maxRecDepth 20000 in
theorem ggX8_init_X4_init : GoodIn wsX8_init wsX4_init := goodIn_r _ [69, 70, 2, 3, 57, 71, 72, 108, 109] (by decide +kernel) (by decide +kernel)
set_option maxRecDepth 20000 in
theorem gX8_init_X4_init : GoodIn wsX8_init (wsX4_init) := ggX8_init_X4_init
set_option maxRecDepth 20000 in
theorem ggX8_init_X1_init : GoodIn wsX8_init wsX1_init := goodIn_r _ [75, 76, 2, 3, 77, 78, 110] (by decide +kernel) (by decide +kernel)
set_option maxRecDepth 20000 in
theorem gX8_init_X1_init : GoodIn wsX8_init (wsX1_init) := ggX8_init_X1_init
set_option maxRecDepth 20000 in
theorem ggX8_init_X6_init : GoodIn wsX8_init wsX6_init := goodIn_r _ [81, 82, 2, 3, 83, 33, 34, 84, 85, 86, 87, 54, 55, 56, 57, 58, 114, 111, 112, 113] (by decide +kernel) (by decide +kernel)
set_option maxRecDepth 20000 in
theorem gX8_init_X6_init : GoodIn wsX8_init (wsX6_init) := ggX8_init_X6_init
set_option maxRecDepth 20000 in
theorem ggX8_init_X5_init : GoodIn wsX8_init wsX5_init := goodIn_r _ [55, 56, 2, 3, 57, 58, 114] (by decide +kernel) (by decide +kernel)
set_option maxRecDepth 20000 in
theorem gX8_init_X5_init : GoodIn wsX8_init (wsX5_init) := ggX8_init_X5_init
theorem dX8_init_0 : decode cX8_init 0 = .ok (.aload_n 0, 1) := by decide +kernel
theorem dX8_init_1 : decode cX8_init 1 = .ok (.invokespecial 1, 3) := by decide +kernel
theorem dX8_init_4 : decode cX8_init 4 = .ok (.aload_n 0, 1) := by decide +kernel
theorem dX8_init_5 : decode cX8_init 5 = .ok (.new 7, 3) := by decide +kernel
theorem dX8_init_8 : decode cX8_init 8 = .ok (.dup, 1) := by decide +kernel
theorem dX8_init_9 : decode cX8_init 9 = .ok (.invokespecial 9, 3) := by decide +kernel
theorem dX8_init_12 : decode cX8_init 12 = .ok (.putfield 10, 3) := by decide +kernel
theorem dX8_init_15 : decode cX8_init 15 = .ok (.aload_n 0, 1) := by decide +kernel
theorem dX8_init_16 : decode cX8_init 16 = .ok (.new 16, 3) := by decide +kernel
theorem dX8_init_19 : decode cX8_init 19 = .ok (.dup, 1) := by decide +kernel
theorem dX8_init_20 : decode cX8_init 20 = .ok (.invokespecial 18, 3) := by decide +kernel
theorem dX8_init_23 : decode cX8_init 23 = .ok (.putfield 19, 3) := by decide +kernel
theorem dX8_init_26 : decode cX8_init 26 = .ok (.aload_n 0, 1) := by decide +kernel
theorem dX8_init_27 : decode cX8_init 27 = .ok (.new 23, 3) := by decide +kernel
theorem dX8_init_30 : decode cX8_init 30 = .ok (.dup, 1) := by decide +kernel
theorem dX8_init_31 : decode cX8_init 31 = .ok (.invokespecial 25, 3) := by decide +kernel
theorem dX8_init_34 : decode cX8_init 34 = .ok (.putfield 26, 3) := by decide +kernel
theorem dX8_init_37 : decode cX8_init 37 = .ok (.aload_n 0, 1) := by decide +kernel
theorem dX8_init_38 : decode cX8_init 38 = .ok (.new 30, 3) := by decide +kernel
theorem dX8_init_41 : decode cX8_init 41 = .ok (.dup, 1) := by decide +kernel
theorem dX8_init_42 : decode cX8_init 42 = .ok (.invokespecial 32, 3) := by decide +kernel
theorem dX8_init_45 : decode cX8_init 45 = .ok (.putfield 33, 3) := by decide +kernel
theorem dX8_init_48 : decode cX8_init 48 = .ok (.aload_n 0, 1) := by decide +kernel
theorem dX8_init_49 : decode cX8_init 49 = .ok (.new 37, 3) := by decide +kernel
theorem dX8_init_52 : decode cX8_init 52 = .ok (.dup, 1) := by decide +kernel
theorem dX8_init_53 : decode cX8_init 53 = .ok (.invokespecial 39, 3) := by decide +kernel
theorem dX8_init_56 : decode cX8_init 56 = .ok (.putfield 40, 3) := by decide +kernel
theorem dX8_init_59 : decode cX8_init 59 = .ok (.aload_n 0, 1) := by decide +kernel
theorem dX8_init_60 : decode cX8_init 60 = .ok (.new 44, 3) := by decide +kernel
theorem dX8_init_63 : decode cX8_init 63 = .ok (.dup, 1) := by decide +kernel
theorem dX8_init_64 : decode cX8_init 64 = .ok (.invokespecial 46, 3) := by decide +kernel
theorem dX8_init_67 : decode cX8_init 67 = .ok (.putfield 47, 3) := by decide +kernel
theorem dX8_init_70 : decode cX8_init 70 = .ok (.aload_n 0, 1) := by decide +kernel
theorem dX8_init_71 : decode cX8_init 71 = .ok (.new 51, 3) := by decide +kernel
theorem dX8_init_74 : decode cX8_init 74 = .ok (.dup, 1) := by decide +kernel
theorem dX8_init_75 : decode cX8_init 75 = .ok (.invokespecial 53, 3) := by decide +kernel
theorem dX8_init_78 : decode cX8_init 78 = .ok (.putfield 54, 3) := by decide +kernel
theorem dX8_init_81 : decode cX8_init 81 = .ok (.aload_n 0, 1) := by decide +kernel
theorem dX8_init_82 : decode cX8_init 82 = .ok (.new 58, 3) := by decide +kernel
theorem dX8_init_85 : decode cX8_init 85 = .ok (.dup, 1) := by decide +kernel
theorem dX8_init_86 : decode cX8_init 86 = .ok (.iconst 1, 1) := by decide +kernel
theorem dX8_init_87 : decode cX8_init 87 = .ok (.invokespecial 60, 3) := by decide +kernel
theorem dX8_init_90 : decode cX8_init 90 = .ok (.putfield 63, 3) := by decide +kernel
theorem dX8_init_93 : decode cX8_init 93 = .ok (.aload_n 0, 1) := by decide +kernel
theorem dX8_init_94 : decode cX8_init 94 = .ok (.iconst 0, 1) := by decide +kernel
theorem dX8_init_95 : decode cX8_init 95 = .ok (.putfield 67, 3) := by decide +kernel
theorem dX8_init_98 : decode cX8_init 98 = .ok (.return_, 1) := by decide +kernel
set_option maxRecDepth 20000 in
theorem ggX8_begin_X3_renew : GoodIn wsX8_begin wsX3_renew := goodIn_r _ [9, 10, 11, 12, 13, 36, 37, 38, 39] (by decide +kernel) (by decide +kernel)
set_option maxRecDepth 20000 in
theorem gX8_begin_X3_renew : GoodIn wsX8_begin (wsV RX8 71 RX3 yX3_renew wsX3_renew) := goodIn_app (goodIn_of _ (by decide +kernel)) ggX8_begin_X3_renew
set_option maxRecDepth 20000 in
theorem ggX8_begin_X7_clear : GoodIn wsX8_begin wsX7_clear := goodIn_r _ [18, 19, 40, 41] (by decide +kernel) (by decide +kernel)
set_option maxRecDepth 20000 in
theorem gX8_begin_X7_clear : GoodIn wsX8_begin (wsV RX8 75 RX7 yX7_clear wsX7_clear) := goodIn_app (goodIn_of _ (by decide +kernel)) ggX8_begin_X7_clear
set_option maxRecDepth 20000 in
theorem ggX8_begin_X6_clear : GoodIn wsX8_begin wsX6_clear := goodIn_r _ [24, 25, 26, 42, 43, 44] (by decide +kernel) (by decide +kernel)
set_option maxRecDepth 20000 in
theorem gX8_begin_X6_clear : GoodIn wsX8_begin (wsV RX8 78 RX6 yX6_clear wsX6_clear) := goodIn_app (goodIn_of _ (by decide +kernel)) ggX8_begin_X6_clear
theorem dX8_begin_0 : decode cX8_begin 0 = .ok (.iload 7, 2) := by decide +kernel
theorem dX8_begin_2 : decode cX8_begin 2 = .ok (.iconst 1, 1) := by decide +kernel
theorem dX8_begin_3 : decode cX8_begin 3 = .ok (.if_icmp .lt 9, 3) := by decide +kernel
theorem dX8_begin_6 : decode cX8_begin 6 = .ok (.iload 7, 2) := by decide +kernel
theorem dX8_begin_8 : decode cX8_begin 8 = .ok (.iconst 4, 1) := by decide +kernel
theorem dX8_begin_9 : decode cX8_begin 9 = .ok (.if_icmp .le 5, 3) := by decide +kernel
theorem dX8_begin_12 : decode cX8_begin 12 = .ok (.iconst 0, 1) := by decide +kernel
theorem dX8_begin_13 : decode cX8_begin 13 = .ok (.ireturn, 1) := by decide +kernel
theorem dX8_begin_14 : decode cX8_begin 14 = .ok (.aload_n 0, 1) := by decide +kernel
theorem dX8_begin_15 : decode cX8_begin 15 = .ok (.getfield 10, 3) := by decide +kernel
theorem dX8_begin_18 : decode cX8_begin 18 = .ok (.lload_n 1, 1) := by decide +kernel
theorem dX8_begin_19 : decode cX8_begin 19 = .ok (.lload_n 3, 1) := by decide +kernel
theorem dX8_begin_20 : decode cX8_begin 20 = .ok (.lload 5, 2) := by decide +kernel
theorem dX8_begin_22 : decode cX8_begin 22 = .ok (.iload 7, 2) := by decide +kernel
theorem dX8_begin_24 : decode cX8_begin 24 = .ok (.invokevirtual 71, 3) := by decide +kernel
theorem dX8_begin_27 : decode cX8_begin 27 = .ok (.aload_n 0, 1) := by decide +kernel
theorem dX8_begin_28 : decode cX8_begin 28 = .ok (.getfield 33, 3) := by decide +kernel
theorem dX8_begin_31 : decode cX8_begin 31 = .ok (.invokevirtual 75, 3) := by decide +kernel
theorem dX8_begin_34 : decode cX8_begin 34 = .ok (.aload_n 0, 1) := by decide +kernel
theorem dX8_begin_35 : decode cX8_begin 35 = .ok (.getfield 54, 3) := by decide +kernel
theorem dX8_begin_38 : decode cX8_begin 38 = .ok (.invokevirtual 78, 3) := by decide +kernel
theorem dX8_begin_41 : decode cX8_begin 41 = .ok (.aload_n 0, 1) := by decide +kernel
theorem dX8_begin_42 : decode cX8_begin 42 = .ok (.iconst 0, 1) := by decide +kernel
theorem dX8_begin_43 : decode cX8_begin 43 = .ok (.putfield 67, 3) := by decide +kernel
theorem dX8_begin_46 : decode cX8_begin 46 = .ok (.iconst 1, 1) := by decide +kernel
theorem dX8_begin_47 : decode cX8_begin 47 = .ok (.ireturn, 1) := by decide +kernel
set_option maxRecDepth 20000 in
theorem ggX8_grow_X3_leaves : GoodIn wsX8_grow wsX3_leaves := goodIn_r _ [16, 17, 110, 111, 112, 113] (by decide +kernel) (by decide +kernel)
set_option maxRecDepth 20000 in
theorem gX8_grow_X3_leaves : GoodIn wsX8_grow (wsV RX8 79 RX3 yX3_leaves wsX3_leaves) := goodIn_app (goodIn_of _ (by decide +kernel)) ggX8_grow_X3_leaves
set_option maxRecDepth 20000 in
theorem ggX8_grow_X0_makeEnds : GoodIn wsX8_grow wsX0_makeEnds := goodIn_r _ [22, 23, 24, 25, 26, 27, 21, 28, 29, 30, 31, 32, 33, 34, 35, 36, 37, 38, 39, 40, 41, 42, 43, 44, 45, 46, 47, 48, 49, 50, 51, 52, 53, 54, 55, 56, 57, 58, 59, 60, 61, 62, 63, 64, 65, 66, 67, 68, 69, 70, 114, 115, 110, 111, 112, 113, 116, 117, 118] (by decide +kernel) (by decide +kernel)
set_option maxRecDepth 20000 in
theorem gX8_grow_X0_makeEnds : GoodIn wsX8_grow (wsV RX8 92 RX0 yX0_makeEnds wsX0_makeEnds) := goodIn_app (goodIn_of _ (by decide +kernel)) ggX8_grow_X0_makeEnds
set_option maxRecDepth 20000 in
theorem ggX8_grow_X2_hashLeaf : GoodIn wsX8_grow wsX2_hashLeaf := goodIn_r _ [74, 75, 33, 34, 35, 36, 37, 38, 70, 40, 41, 42, 43, 44, 45, 46, 47, 76, 63, 64, 65, 66, 67, 68, 55, 69, 57, 116, 117, 118] (by decide +kernel) (by decide +kernel)
set_option maxRecDepth 20000 in
theorem gX8_grow_X2_hashLeaf : GoodIn wsX8_grow (wsV RX8 103 RX2 yX2_hashLeaf wsX2_hashLeaf) := goodIn_app (goodIn_of _ (by decide +kernel)) ggX8_grow_X2_hashLeaf
set_option maxRecDepth 20000 in
theorem ggX8_grow_X7_addLeaf : GoodIn wsX8_grow wsX7_addLeaf := goodIn_r _ [81, 82, 83, 84, 85, 86, 80, 87, 88, 49, 50, 35, 51, 37, 38, 52, 53, 54, 55, 56, 57, 89, 90, 91, 92, 93, 94, 95, 96, 97, 75, 33, 34, 36, 70, 40, 41, 42, 43, 44, 45, 46, 47, 98, 63, 64, 65, 66, 67, 68, 69, 108, 109, 110, 111, 112, 113, 116, 117, 118] (by decide +kernel) (by decide +kernel)
set_option maxRecDepth 20000 in
theorem gX8_grow_X7_addLeaf : GoodIn wsX8_grow (wsV RX8 107 RX7 yX7_addLeaf wsX7_addLeaf) := goodIn_app (goodIn_of _ (by decide +kernel)) ggX8_grow_X7_addLeaf
theorem dX8_grow_0 : decode cX8_grow 0 = .ok (.iload_n 1, 1) := by decide +kernel
theorem dX8_grow_1 : decode cX8_grow 1 = .ok (.iconst 1, 1) := by decide +kernel
theorem dX8_grow_2 : decode cX8_grow 2 = .ok (.if_icmp .ge 5, 3) := by decide +kernel
theorem dX8_grow_5 : decode cX8_grow 5 = .ok (.iconst (-1), 1) := by decide +kernel
theorem dX8_grow_6 : decode cX8_grow 6 = .ok (.ireturn, 1) := by decide +kernel
theorem dX8_grow_7 : decode cX8_grow 7 = .ok (.iload_n 1, 1) := by decide +kernel
theorem dX8_grow_8 : decode cX8_grow 8 = .ok (.aload_n 0, 1) := by decide +kernel
theorem dX8_grow_9 : decode cX8_grow 9 = .ok (.getfield 10, 3) := by decide +kernel
theorem dX8_grow_12 : decode cX8_grow 12 = .ok (.invokevirtual 79, 3) := by decide +kernel
theorem dX8_grow_15 : decode cX8_grow 15 = .ok (.aload_n 0, 1) := by decide +kernel
theorem dX8_grow_16 : decode cX8_grow 16 = .ok (.getfield 33, 3) := by decide +kernel
theorem dX8_grow_19 : decode cX8_grow 19 = .ok (.getfield 83, 3) := by decide +kernel
theorem dX8_grow_22 : decode cX8_grow 22 = .ok (.isub, 1) := by decide +kernel
theorem dX8_grow_23 : decode cX8_grow 23 = .ok (.invokestatic 86, 3) := by decide +kernel
theorem dX8_grow_26 : decode cX8_grow 26 = .ok (.istore_n 2, 1) := by decide +kernel
theorem dX8_grow_27 : decode cX8_grow 27 = .ok (.iconst 0, 1) := by decide +kernel
theorem dX8_grow_28 : decode cX8_grow 28 = .ok (.istore_n 3, 1) := by decide +kernel
theorem dX8_grow_29 : decode cX8_grow 29 = .ok (.iload_n 3, 1) := by decide +kernel
theorem dX8_grow_30 : decode cX8_grow 30 = .ok (.iload_n 2, 1) := by decide +kernel
theorem dX8_grow_31 : decode cX8_grow 31 = .ok (.if_icmp .ge 69, 3) := by decide +kernel
theorem dX8_grow_34 : decode cX8_grow 34 = .ok (.aload_n 0, 1) := by decide +kernel
theorem dX8_grow_35 : decode cX8_grow 35 = .ok (.getfield 33, 3) := by decide +kernel
theorem dX8_grow_38 : decode cX8_grow 38 = .ok (.getfield 83, 3) := by decide +kernel
theorem dX8_grow_41 : decode cX8_grow 41 = .ok (.istore 4, 2) := by decide +kernel
theorem dX8_grow_43 : decode cX8_grow 43 = .ok (.aload_n 0, 1) := by decide +kernel
theorem dX8_grow_44 : decode cX8_grow 44 = .ok (.getfield 26, 3) := by decide +kernel
theorem dX8_grow_47 : decode cX8_grow 47 = .ok (.aload_n 0, 1) := by decide +kernel
theorem dX8_grow_48 : decode cX8_grow 48 = .ok (.getfield 10, 3) := by decide +kernel
theorem dX8_grow_51 : decode cX8_grow 51 = .ok (.iload 4, 2) := by decide +kernel
theorem dX8_grow_53 : decode cX8_grow 53 = .ok (.invokevirtual 92, 3) := by decide +kernel
theorem dX8_grow_56 : decode cX8_grow 56 = .ok (.aload_n 0, 1) := by decide +kernel
theorem dX8_grow_57 : decode cX8_grow 57 = .ok (.getfield 19, 3) := by decide +kernel
theorem dX8_grow_60 : decode cX8_grow 60 = .ok (.aload_n 0, 1) := by decide +kernel
theorem dX8_grow_61 : decode cX8_grow 61 = .ok (.getfield 10, 3) := by decide +kernel
theorem dX8_grow_64 : decode cX8_grow 64 = .ok (.getfield 96, 3) := by decide +kernel
theorem dX8_grow_67 : decode cX8_grow 67 = .ok (.iload 4, 2) := by decide +kernel
theorem dX8_grow_69 : decode cX8_grow 69 = .ok (.aload_n 0, 1) := by decide +kernel
theorem dX8_grow_70 : decode cX8_grow 70 = .ok (.getfield 26, 3) := by decide +kernel
theorem dX8_grow_73 : decode cX8_grow 73 = .ok (.getfield 100, 3) := by decide +kernel
theorem dX8_grow_76 : decode cX8_grow 76 = .ok (.invokevirtual 103, 3) := by decide +kernel
theorem dX8_grow_79 : decode cX8_grow 79 = .ok (.aload_n 0, 1) := by decide +kernel
theorem dX8_grow_80 : decode cX8_grow 80 = .ok (.getfield 33, 3) := by decide +kernel
theorem dX8_grow_83 : decode cX8_grow 83 = .ok (.aload_n 0, 1) := by decide +kernel
theorem dX8_grow_84 : decode cX8_grow 84 = .ok (.getfield 10, 3) := by decide +kernel
theorem dX8_grow_87 : decode cX8_grow 87 = .ok (.aload_n 0, 1) := by decide +kernel
theorem dX8_grow_88 : decode cX8_grow 88 = .ok (.getfield 19, 3) := by decide +kernel
theorem dX8_grow_91 : decode cX8_grow 91 = .ok (.invokevirtual 107, 3) := by decide +kernel
theorem dX8_grow_94 : decode cX8_grow 94 = .ok (.iinc 3 1, 3) := by decide +kernel
theorem dX8_grow_97 : decode cX8_grow 97 = .ok (.goto (-68), 3) := by decide +kernel
theorem dX8_grow_100 : decode cX8_grow 100 = .ok (.aload_n 0, 1) := by decide +kernel
theorem dX8_grow_101 : decode cX8_grow 101 = .ok (.getfield 10, 3) := by decide +kernel
theorem dX8_grow_104 : decode cX8_grow 104 = .ok (.invokevirtual 79, 3) := by decide +kernel
theorem dX8_grow_107 : decode cX8_grow 107 = .ok (.aload_n 0, 1) := by decide +kernel
theorem dX8_grow_108 : decode cX8_grow 108 = .ok (.getfield 33, 3) := by decide +kernel
theorem dX8_grow_111 : decode cX8_grow 111 = .ok (.getfield 83, 3) := by decide +kernel
theorem dX8_grow_114 : decode cX8_grow 114 = .ok (.isub, 1) := by decide +kernel
theorem dX8_grow_115 : decode cX8_grow 115 = .ok (.ireturn, 1) := by decide +kernel
set_option maxRecDepth 20000 in
theorem ggX8_node_X8_isHalf : GoodIn wsX8_node wsX8_isHalf := goodIn_r _ [8] (by decide +kernel) (by decide +kernel)
set_option maxRecDepth 20000 in
theorem gX8_node_X8_isHalf : GoodIn wsX8_node (va_wsS RX8 111 yX8_isHalf wsX8_isHalf) := goodIn_app (goodIn_of _ (by decide +kernel)) ggX8_node_X8_isHalf
set_option maxRecDepth 20000 in
theorem ggX8_node_X7_isMade : GoodIn wsX8_node wsX7_isMade := goodIn_r _ [13, 14, 37, 38] (by decide +kernel) (by decide +kernel)
set_option maxRecDepth 20000 in
theorem gX8_node_X7_isMade : GoodIn wsX8_node (wsV RX8 118 RX7 yX7_isMade wsX7_isMade) := goodIn_app (goodIn_of _ (by decide +kernel)) ggX8_node_X7_isMade
set_option maxRecDepth 20000 in
theorem ggX8_node_X7_slot : GoodIn wsX8_node wsX7_slot := goodIn_r _ [17] (by decide +kernel) (by decide +kernel)
set_option maxRecDepth 20000 in
theorem gX8_node_X7_slot : GoodIn wsX8_node (va_wsS RX8 125 yX7_slot wsX7_slot) := goodIn_app (goodIn_of _ (by decide +kernel)) ggX8_node_X7_slot
set_option maxRecDepth 20000 in
theorem ggX8_node_X5_at : GoodIn wsX8_node wsX5_at := goodIn_r _ [22, 23, 39] (by decide +kernel) (by decide +kernel)
set_option maxRecDepth 20000 in
theorem gX8_node_X5_at : GoodIn wsX8_node (wsV RX8 129 RX5 yX5_at wsX5_at) := goodIn_app (goodIn_of _ (by decide +kernel)) ggX8_node_X5_at
theorem dX8_node_0 : decode cX8_node 0 = .ok (.iload_n 3, 1) := by decide +kernel
theorem dX8_node_1 : decode cX8_node 1 = .ok (.invokestatic 111, 3) := by decide +kernel
theorem dX8_node_4 : decode cX8_node 4 = .ok (.ifCond .eq 22, 3) := by decide +kernel
theorem dX8_node_7 : decode cX8_node 7 = .ok (.aload_n 0, 1) := by decide +kernel
theorem dX8_node_8 : decode cX8_node 8 = .ok (.getfield 33, 3) := by decide +kernel
theorem dX8_node_11 : decode cX8_node 11 = .ok (.aload_n 0, 1) := by decide +kernel
theorem dX8_node_12 : decode cX8_node 12 = .ok (.getfield 10, 3) := by decide +kernel
theorem dX8_node_15 : decode cX8_node 15 = .ok (.getfield 115, 3) := by decide +kernel
theorem dX8_node_18 : decode cX8_node 18 = .ok (.iload_n 1, 1) := by decide +kernel
theorem dX8_node_19 : decode cX8_node 19 = .ok (.iload_n 2, 1) := by decide +kernel
theorem dX8_node_20 : decode cX8_node 20 = .ok (.invokevirtual 118, 3) := by decide +kernel
theorem dX8_node_23 : decode cX8_node 23 = .ok (.ifCond .ne 5, 3) := by decide +kernel
theorem dX8_node_26 : decode cX8_node 26 = .ok (.lconst 0, 1) := by decide +kernel
theorem dX8_node_27 : decode cX8_node 27 = .ok (.lreturn, 1) := by decide +kernel
theorem dX8_node_28 : decode cX8_node 28 = .ok (.aload_n 0, 1) := by decide +kernel
theorem dX8_node_29 : decode cX8_node 29 = .ok (.getfield 33, 3) := by decide +kernel
theorem dX8_node_32 : decode cX8_node 32 = .ok (.getfield 122, 3) := by decide +kernel
theorem dX8_node_35 : decode cX8_node 35 = .ok (.aload_n 0, 1) := by decide +kernel
theorem dX8_node_36 : decode cX8_node 36 = .ok (.getfield 10, 3) := by decide +kernel
theorem dX8_node_39 : decode cX8_node 39 = .ok (.getfield 115, 3) := by decide +kernel
theorem dX8_node_42 : decode cX8_node 42 = .ok (.iload_n 1, 1) := by decide +kernel
theorem dX8_node_43 : decode cX8_node 43 = .ok (.iload_n 2, 1) := by decide +kernel
theorem dX8_node_44 : decode cX8_node 44 = .ok (.invokestatic 125, 3) := by decide +kernel
theorem dX8_node_47 : decode cX8_node 47 = .ok (.iload_n 3, 1) := by decide +kernel
theorem dX8_node_48 : decode cX8_node 48 = .ok (.invokevirtual 129, 3) := by decide +kernel
theorem dX8_node_51 : decode cX8_node 51 = .ok (.lreturn, 1) := by decide +kernel
set_option maxRecDepth 20000 in
theorem ggX8_feed_X4_isFull : GoodIn wsX8_feed wsX4_isFull := goodIn_r _ [7, 8, 23, 24] (by decide +kernel) (by decide +kernel)
set_option maxRecDepth 20000 in
theorem gX8_feed_X4_isFull : GoodIn wsX8_feed (wsV RX8 133 RX4 yX4_isFull wsX4_isFull) := goodIn_app (goodIn_of _ (by decide +kernel)) ggX8_feed_X4_isFull
set_option maxRecDepth 20000 in
theorem ggX8_feed_X4_append : GoodIn wsX8_feed wsX4_append := goodIn_r _ [12, 13, 8, 23, 24] (by decide +kernel) (by decide +kernel)
set_option maxRecDepth 20000 in
theorem gX8_feed_X4_append : GoodIn wsX8_feed (wsV RX8 137 RX4 yX4_append wsX4_append) := goodIn_app (goodIn_of _ (by decide +kernel)) ggX8_feed_X4_append
theorem dX8_feed_0 : decode cX8_feed 0 = .ok (.aload_n 0, 1) := by decide +kernel
theorem dX8_feed_1 : decode cX8_feed 1 = .ok (.getfield 40, 3) := by decide +kernel
theorem dX8_feed_4 : decode cX8_feed 4 = .ok (.invokevirtual 133, 3) := by decide +kernel
theorem dX8_feed_7 : decode cX8_feed 7 = .ok (.ifCond .eq 5, 3) := by decide +kernel
theorem dX8_feed_10 : decode cX8_feed 10 = .ok (.iconst (-1), 1) := by decide +kernel
theorem dX8_feed_11 : decode cX8_feed 11 = .ok (.ireturn, 1) := by decide +kernel
theorem dX8_feed_12 : decode cX8_feed 12 = .ok (.aload_n 0, 1) := by decide +kernel
theorem dX8_feed_13 : decode cX8_feed 13 = .ok (.getfield 40, 3) := by decide +kernel
theorem dX8_feed_16 : decode cX8_feed 16 = .ok (.lload_n 1, 1) := by decide +kernel
theorem dX8_feed_17 : decode cX8_feed 17 = .ok (.invokevirtual 137, 3) := by decide +kernel
theorem dX8_feed_20 : decode cX8_feed 20 = .ok (.aload_n 0, 1) := by decide +kernel
theorem dX8_feed_21 : decode cX8_feed 21 = .ok (.getfield 40, 3) := by decide +kernel
theorem dX8_feed_24 : decode cX8_feed 24 = .ok (.getfield 141, 3) := by decide +kernel
theorem dX8_feed_27 : decode cX8_feed 27 = .ok (.ireturn, 1) := by decide +kernel
set_option maxRecDepth 20000 in
theorem ggX8_reset_X4_clear : GoodIn wsX8_reset wsX4_clear := goodIn_r _ [7, 8, 18, 19] (by decide +kernel) (by decide +kernel)
set_option maxRecDepth 20000 in
theorem gX8_reset_X4_clear : GoodIn wsX8_reset (wsV RX8 144 RX4 yX4_clear wsX4_clear) := goodIn_app (goodIn_of _ (by decide +kernel)) ggX8_reset_X4_clear
theorem dX8_reset_0 : decode cX8_reset 0 = .ok (.aload_n 0, 1) := by decide +kernel
theorem dX8_reset_1 : decode cX8_reset 1 = .ok (.getfield 40, 3) := by decide +kernel
theorem dX8_reset_4 : decode cX8_reset 4 = .ok (.getfield 141, 3) := by decide +kernel
theorem dX8_reset_7 : decode cX8_reset 7 = .ok (.istore_n 1, 1) := by decide +kernel
theorem dX8_reset_8 : decode cX8_reset 8 = .ok (.aload_n 0, 1) := by decide +kernel
theorem dX8_reset_9 : decode cX8_reset 9 = .ok (.getfield 40, 3) := by decide +kernel
theorem dX8_reset_12 : decode cX8_reset 12 = .ok (.invokevirtual 144, 3) := by decide +kernel
theorem dX8_reset_15 : decode cX8_reset 15 = .ok (.iload_n 1, 1) := by decide +kernel
theorem dX8_reset_16 : decode cX8_reset 16 = .ok (.ireturn, 1) := by decide +kernel
set_option maxRecDepth 20000 in
theorem ggX8_digit_X3_hasLeaf : GoodIn wsX8_digit wsX3_hasLeaf := goodIn_r _ [10, 11, 12, 13, 9, 14, 15, 92, 93, 94, 95] (by decide +kernel) (by decide +kernel)
set_option maxRecDepth 20000 in
theorem gX8_digit_X3_hasLeaf : GoodIn wsX8_digit (wsV RX8 145 RX3 yX3_hasLeaf wsX3_hasLeaf) := goodIn_app (goodIn_of _ (by decide +kernel)) ggX8_digit_X3_hasLeaf
set_option maxRecDepth 20000 in
theorem ggX8_digit_X8_isRootMade : GoodIn wsX8_digit wsX8_isRootMade := goodIn_r _ [20, 2, 1, 21, 22, 23, 24, 25, 26, 27, 80, 81, 82, 83, 84, 85, 86, 87, 88, 92, 93, 94, 95, 89, 90] (by decide +kernel) (by decide +kernel)
set_option maxRecDepth 20000 in
theorem gX8_digit_X8_isRootMade : GoodIn wsX8_digit (wsV RX8 148 RX8 yX8_isRootMade wsX8_isRootMade) := goodIn_app (goodIn_of _ (by decide +kernel)) ggX8_digit_X8_isRootMade
set_option maxRecDepth 20000 in
theorem ggX8_digit_X8_readDigits : GoodIn wsX8_digit wsX8_readDigits := goodIn_r _ [31, 32, 33, 34, 1, 35, 4, 36, 37, 38, 39, 40, 41, 42, 43, 44, 45, 46, 47, 48, 49, 50, 51, 52, 53, 54, 55, 56, 57, 58, 59, 60, 61, 62, 63, 64, 65, 66, 67, 68, 69, 70, 71, 72, 73, 74, 75, 76, 77, 78, 79, 80, 81, 82, 83, 84, 85, 86, 87, 88, 96, 97, 92, 93, 94, 95, 98, 99, 100, 91] (by decide +kernel) (by decide +kernel)
set_option maxRecDepth 20000 in
theorem gX8_digit_X8_readDigits : GoodIn wsX8_digit (wsV RX8 151 RX8 yX8_readDigits wsX8_readDigits) := goodIn_app (goodIn_of _ (by decide +kernel)) ggX8_digit_X8_readDigits
theorem dX8_digit_0 : decode cX8_digit 0 = .ok (.aload_n 0, 1) := by decide +kernel
theorem dX8_digit_1 : decode cX8_digit 1 = .ok (.getfield 10, 3) := by decide +kernel
theorem dX8_digit_4 : decode cX8_digit 4 = .ok (.iload_n 1, 1) := by decide +kernel
theorem dX8_digit_5 : decode cX8_digit 5 = .ok (.invokevirtual 145, 3) := by decide +kernel
theorem dX8_digit_8 : decode cX8_digit 8 = .ok (.ifCond .eq 20, 3) := by decide +kernel
theorem dX8_digit_11 : decode cX8_digit 11 = .ok (.iload_n 2, 1) := by decide +kernel
theorem dX8_digit_12 : decode cX8_digit 12 = .ok (.ifCond .lt 16, 3) := by decide +kernel
theorem dX8_digit_15 : decode cX8_digit 15 = .ok (.iload_n 2, 1) := by decide +kernel
theorem dX8_digit_16 : decode cX8_digit 16 = .ok (.bipush 35, 2) := by decide +kernel
theorem dX8_digit_18 : decode cX8_digit 18 = .ok (.if_icmp .ge 10, 3) := by decide +kernel
theorem dX8_digit_21 : decode cX8_digit 21 = .ok (.aload_n 0, 1) := by decide +kernel
theorem dX8_digit_22 : decode cX8_digit 22 = .ok (.invokevirtual 148, 3) := by decide +kernel
theorem dX8_digit_25 : decode cX8_digit 25 = .ok (.ifCond .ne 5, 3) := by decide +kernel
theorem dX8_digit_28 : decode cX8_digit 28 = .ok (.iconst (-1), 1) := by decide +kernel
theorem dX8_digit_29 : decode cX8_digit 29 = .ok (.ireturn, 1) := by decide +kernel
theorem dX8_digit_30 : decode cX8_digit 30 = .ok (.aload_n 0, 1) := by decide +kernel
theorem dX8_digit_31 : decode cX8_digit 31 = .ok (.iload_n 1, 1) := by decide +kernel
theorem dX8_digit_32 : decode cX8_digit 32 = .ok (.aload_n 0, 1) := by decide +kernel
theorem dX8_digit_33 : decode cX8_digit 33 = .ok (.getfield 33, 3) := by decide +kernel
theorem dX8_digit_36 : decode cX8_digit 36 = .ok (.getfield 122, 3) := by decide +kernel
theorem dX8_digit_39 : decode cX8_digit 39 = .ok (.iconst 1, 1) := by decide +kernel
theorem dX8_digit_40 : decode cX8_digit 40 = .ok (.invokevirtual 151, 3) := by decide +kernel
theorem dX8_digit_43 : decode cX8_digit 43 = .ok (.aload_n 0, 1) := by decide +kernel
theorem dX8_digit_44 : decode cX8_digit 44 = .ok (.getfield 47, 3) := by decide +kernel
theorem dX8_digit_47 : decode cX8_digit 47 = .ok (.getfield 155, 3) := by decide +kernel
theorem dX8_digit_50 : decode cX8_digit 50 = .ok (.iload_n 2, 1) := by decide +kernel
theorem dX8_digit_51 : decode cX8_digit 51 = .ok (.iaload, 1) := by decide +kernel
theorem dX8_digit_52 : decode cX8_digit 52 = .ok (.ireturn, 1) := by decide +kernel
end
section
set_option maxRecDepth 20000 in
theorem ggX8_sign_X8_isRootMade : GoodIn wsX8_sign wsX8_isRootMade := goodIn_r _ [16, 3, 2, 6, 17, 18, 19, 20, 21, 22, 119, 120, 121, 122, 123, 124, 125, 126, 127, 130, 131, 132, 133, 128, 129] (by decide +kernel) (by decide +kernel)
set_option maxRecDepth 20000 in
theorem gX8_sign_X8_isRootMade : GoodIn wsX8_sign (wsV RX8 148 RX8 yX8_isRootMade wsX8_isRootMade) := goodIn_app (goodIn_of _ (by decide +kernel)) ggX8_sign_X8_isRootMade
set_option maxRecDepth 20000 in
theorem ggX8_sign_X3_leaves : GoodIn wsX8_sign wsX3_leaves := goodIn_r _ [27, 28, 130, 131, 132, 133] (by decide +kernel) (by decide +kernel)
set_option maxRecDepth 20000 in
theorem gX8_sign_X3_leaves : GoodIn wsX8_sign (wsV RX8 79 RX3 yX3_leaves wsX3_leaves) := goodIn_app (goodIn_of _ (by decide +kernel)) ggX8_sign_X3_leaves
set_option maxRecDepth 20000 in
theorem ggX8_sign_X8_readDigits : GoodIn wsX8_sign wsX8_readDigits := goodIn_r _ [32, 33, 34, 35, 2, 9, 10, 36, 37, 38, 39, 40, 41, 42, 43, 44, 45, 46, 47, 48, 49, 50, 51, 52, 53, 54, 55, 56, 57, 58, 59, 60, 61, 62, 63, 64, 65, 66, 67, 68, 69, 70, 71, 72, 73, 74, 75, 76, 77, 78, 79, 119, 120, 121, 122, 123, 124, 125, 126, 127, 138, 139, 130, 131, 132, 133, 140, 141, 142, 137] (by decide +kernel) (by decide +kernel)
set_option maxRecDepth 20000 in
theorem gX8_sign_X8_readDigits : GoodIn wsX8_sign (wsV RX8 151 RX8 yX8_readDigits wsX8_readDigits) := goodIn_app (goodIn_of _ (by decide +kernel)) ggX8_sign_X8_readDigits
set_option maxRecDepth 20000 in
theorem ggX8_sign_X6_open : GoodIn wsX8_sign wsX6_open := goodIn_r _ [84, 85, 86, 134, 135, 136] (by decide +kernel) (by decide +kernel)
set_option maxRecDepth 20000 in
theorem gX8_sign_X6_open : GoodIn wsX8_sign (wsV RX8 159 RX6 yX6_open wsX6_open) := goodIn_app (goodIn_of _ (by decide +kernel)) ggX8_sign_X6_open
set_option maxRecDepth 20000 in
theorem ggX8_sign_X0_makeStart : GoodIn wsX8_sign wsX0_makeStart := goodIn_r _ [91, 92, 93, 94, 95, 39, 40, 41, 42, 43, 44, 96, 46, 47, 48, 49, 50, 51, 52, 53, 97, 98, 99, 100, 101, 102, 103, 61, 104, 63, 143, 144, 130, 131, 132, 133, 140, 141, 142] (by decide +kernel) (by decide +kernel)
set_option maxRecDepth 20000 in
theorem gX8_sign_X0_makeStart : GoodIn wsX8_sign (wsV RX8 165 RX0 yX0_makeStart wsX0_makeStart) := goodIn_app (goodIn_of _ (by decide +kernel)) ggX8_sign_X0_makeStart
set_option maxRecDepth 20000 in
theorem ggX8_sign_X0_carry : GoodIn wsX8_sign wsX0_carry := goodIn_r _ [108, 92, 95, 39, 40, 41, 42, 43, 44, 96, 46, 47, 48, 49, 50, 51, 52, 53, 109, 55, 56, 57, 58, 59, 60, 61, 62, 63, 64, 97, 98, 99, 100, 101, 102, 103, 104, 143, 144, 140, 141, 142] (by decide +kernel) (by decide +kernel)
set_option maxRecDepth 20000 in
theorem gX8_sign_X0_carry : GoodIn wsX8_sign (wsV RX8 169 RX0 yX0_carry wsX0_carry) := goodIn_app (goodIn_of _ (by decide +kernel)) ggX8_sign_X0_carry
set_option maxRecDepth 20000 in
theorem ggX8_sign_X7_slot : GoodIn wsX8_sign wsX7_slot := goodIn_r _ [112] (by decide +kernel) (by decide +kernel)
set_option maxRecDepth 20000 in
theorem gX8_sign_X7_slot : GoodIn wsX8_sign (va_wsS RX8 125 yX7_slot wsX7_slot) := goodIn_app (goodIn_of _ (by decide +kernel)) ggX8_sign_X7_slot
set_option maxRecDepth 20000 in
theorem ggX8_sign_X5_copy : GoodIn wsX8_sign wsX5_copy := goodIn_r _ [116, 117, 59, 60, 61, 62, 63, 118, 102, 103, 104, 142] (by decide +kernel) (by decide +kernel)
set_option maxRecDepth 20000 in
theorem gX8_sign_X5_copy : GoodIn wsX8_sign (wsV RX8 173 RX5 yX5_copy wsX5_copy) := goodIn_app (goodIn_of _ (by decide +kernel)) ggX8_sign_X5_copy
theorem dX8_sign_0 : decode cX8_sign 0 = .ok (.aload_n 0, 1) := by decide +kernel
theorem dX8_sign_1 : decode cX8_sign 1 = .ok (.invokevirtual 148, 3) := by decide +kernel
theorem dX8_sign_4 : decode cX8_sign 4 = .ok (.ifCond .ne 5, 3) := by decide +kernel
theorem dX8_sign_7 : decode cX8_sign 7 = .ok (.iconst (-1), 1) := by decide +kernel
theorem dX8_sign_8 : decode cX8_sign 8 = .ok (.ireturn, 1) := by decide +kernel
theorem dX8_sign_9 : decode cX8_sign 9 = .ok (.aload_n 0, 1) := by decide +kernel
theorem dX8_sign_10 : decode cX8_sign 10 = .ok (.getfield 67, 3) := by decide +kernel
theorem dX8_sign_13 : decode cX8_sign 13 = .ok (.aload_n 0, 1) := by decide +kernel
theorem dX8_sign_14 : decode cX8_sign 14 = .ok (.getfield 10, 3) := by decide +kernel
theorem dX8_sign_17 : decode cX8_sign 17 = .ok (.invokevirtual 79, 3) := by decide +kernel
theorem dX8_sign_20 : decode cX8_sign 20 = .ok (.if_icmp .lt 6, 3) := by decide +kernel
theorem dX8_sign_23 : decode cX8_sign 23 = .ok (.bipush (-2), 2) := by decide +kernel
theorem dX8_sign_25 : decode cX8_sign 25 = .ok (.ireturn, 1) := by decide +kernel
theorem dX8_sign_26 : decode cX8_sign 26 = .ok (.aload_n 0, 1) := by decide +kernel
theorem dX8_sign_27 : decode cX8_sign 27 = .ok (.getfield 67, 3) := by decide +kernel
theorem dX8_sign_30 : decode cX8_sign 30 = .ok (.istore_n 1, 1) := by decide +kernel
theorem dX8_sign_31 : decode cX8_sign 31 = .ok (.aload_n 0, 1) := by decide +kernel
theorem dX8_sign_32 : decode cX8_sign 32 = .ok (.dup, 1) := by decide +kernel
theorem dX8_sign_33 : decode cX8_sign 33 = .ok (.getfield 67, 3) := by decide +kernel
theorem dX8_sign_36 : decode cX8_sign 36 = .ok (.iconst 1, 1) := by decide +kernel
theorem dX8_sign_37 : decode cX8_sign 37 = .ok (.iadd, 1) := by decide +kernel
theorem dX8_sign_38 : decode cX8_sign 38 = .ok (.putfield 67, 3) := by decide +kernel
theorem dX8_sign_41 : decode cX8_sign 41 = .ok (.aload_n 0, 1) := by decide +kernel
theorem dX8_sign_42 : decode cX8_sign 42 = .ok (.iload_n 1, 1) := by decide +kernel
theorem dX8_sign_43 : decode cX8_sign 43 = .ok (.aload_n 0, 1) := by decide +kernel
theorem dX8_sign_44 : decode cX8_sign 44 = .ok (.getfield 33, 3) := by decide +kernel
theorem dX8_sign_47 : decode cX8_sign 47 = .ok (.getfield 122, 3) := by decide +kernel
theorem dX8_sign_50 : decode cX8_sign 50 = .ok (.iconst 1, 1) := by decide +kernel
theorem dX8_sign_51 : decode cX8_sign 51 = .ok (.invokevirtual 151, 3) := by decide +kernel
theorem dX8_sign_54 : decode cX8_sign 54 = .ok (.aload_n 0, 1) := by decide +kernel
theorem dX8_sign_55 : decode cX8_sign 55 = .ok (.getfield 54, 3) := by decide +kernel
theorem dX8_sign_58 : decode cX8_sign 58 = .ok (.iload_n 1, 1) := by decide +kernel
theorem dX8_sign_59 : decode cX8_sign 59 = .ok (.bipush 35, 2) := by decide +kernel
theorem dX8_sign_61 : decode cX8_sign 61 = .ok (.aload_n 0, 1) := by decide +kernel
theorem dX8_sign_62 : decode cX8_sign 62 = .ok (.getfield 10, 3) := by decide +kernel
theorem dX8_sign_65 : decode cX8_sign 65 = .ok (.getfield 115, 3) := by decide +kernel
theorem dX8_sign_68 : decode cX8_sign 68 = .ok (.iadd, 1) := by decide +kernel
theorem dX8_sign_69 : decode cX8_sign 69 = .ok (.invokevirtual 159, 3) := by decide +kernel
theorem dX8_sign_72 : decode cX8_sign 72 = .ok (.iconst 0, 1) := by decide +kernel
theorem dX8_sign_73 : decode cX8_sign 73 = .ok (.istore_n 2, 1) := by decide +kernel
theorem dX8_sign_74 : decode cX8_sign 74 = .ok (.iload_n 2, 1) := by decide +kernel
theorem dX8_sign_75 : decode cX8_sign 75 = .ok (.bipush 35, 2) := by decide +kernel
theorem dX8_sign_77 : decode cX8_sign 77 = .ok (.if_icmp .ge 62, 3) := by decide +kernel
theorem dX8_sign_80 : decode cX8_sign 80 = .ok (.aload_n 0, 1) := by decide +kernel
theorem dX8_sign_81 : decode cX8_sign 81 = .ok (.getfield 26, 3) := by decide +kernel
theorem dX8_sign_84 : decode cX8_sign 84 = .ok (.aload_n 0, 1) := by decide +kernel
theorem dX8_sign_85 : decode cX8_sign 85 = .ok (.getfield 10, 3) := by decide +kernel
theorem dX8_sign_88 : decode cX8_sign 88 = .ok (.iload_n 1, 1) := by decide +kernel
theorem dX8_sign_89 : decode cX8_sign 89 = .ok (.iload_n 2, 1) := by decide +kernel
theorem dX8_sign_90 : decode cX8_sign 90 = .ok (.aload_n 0, 1) := by decide +kernel
theorem dX8_sign_91 : decode cX8_sign 91 = .ok (.getfield 54, 3) := by decide +kernel
theorem dX8_sign_94 : decode cX8_sign 94 = .ok (.getfield 162, 3) := by decide +kernel
theorem dX8_sign_97 : decode cX8_sign 97 = .ok (.invokevirtual 165, 3) := by decide +kernel
theorem dX8_sign_100 : decode cX8_sign 100 = .ok (.aload_n 0, 1) := by decide +kernel
theorem dX8_sign_101 : decode cX8_sign 101 = .ok (.getfield 26, 3) := by decide +kernel
theorem dX8_sign_104 : decode cX8_sign 104 = .ok (.aload_n 0, 1) := by decide +kernel
theorem dX8_sign_105 : decode cX8_sign 105 = .ok (.getfield 10, 3) := by decide +kernel
theorem dX8_sign_108 : decode cX8_sign 108 = .ok (.getfield 96, 3) := by decide +kernel
theorem dX8_sign_111 : decode cX8_sign 111 = .ok (.iload_n 1, 1) := by decide +kernel
theorem dX8_sign_112 : decode cX8_sign 112 = .ok (.iload_n 2, 1) := by decide +kernel
theorem dX8_sign_113 : decode cX8_sign 113 = .ok (.iconst 0, 1) := by decide +kernel
theorem dX8_sign_114 : decode cX8_sign 114 = .ok (.aload_n 0, 1) := by decide +kernel
theorem dX8_sign_115 : decode cX8_sign 115 = .ok (.getfield 47, 3) := by decide +kernel
theorem dX8_sign_118 : decode cX8_sign 118 = .ok (.getfield 155, 3) := by decide +kernel
theorem dX8_sign_121 : decode cX8_sign 121 = .ok (.iload_n 2, 1) := by decide +kernel
theorem dX8_sign_122 : decode cX8_sign 122 = .ok (.iaload, 1) := by decide +kernel
theorem dX8_sign_123 : decode cX8_sign 123 = .ok (.aload_n 0, 1) := by decide +kernel
theorem dX8_sign_124 : decode cX8_sign 124 = .ok (.getfield 54, 3) := by decide +kernel
theorem dX8_sign_127 : decode cX8_sign 127 = .ok (.getfield 162, 3) := by decide +kernel
theorem dX8_sign_130 : decode cX8_sign 130 = .ok (.invokevirtual 169, 3) := by decide +kernel
theorem dX8_sign_133 : decode cX8_sign 133 = .ok (.iinc 2 1, 3) := by decide +kernel
theorem dX8_sign_136 : decode cX8_sign 136 = .ok (.goto (-62), 3) := by decide +kernel
theorem dX8_sign_139 : decode cX8_sign 139 = .ok (.iconst 0, 1) := by decide +kernel
theorem dX8_sign_140 : decode cX8_sign 140 = .ok (.istore_n 2, 1) := by decide +kernel
theorem dX8_sign_141 : decode cX8_sign 141 = .ok (.iload_n 2, 1) := by decide +kernel
theorem dX8_sign_142 : decode cX8_sign 142 = .ok (.aload_n 0, 1) := by decide +kernel
theorem dX8_sign_143 : decode cX8_sign 143 = .ok (.getfield 10, 3) := by decide +kernel
theorem dX8_sign_146 : decode cX8_sign 146 = .ok (.getfield 115, 3) := by decide +kernel
theorem dX8_sign_149 : decode cX8_sign 149 = .ok (.if_icmp .ge 48, 3) := by decide +kernel
theorem dX8_sign_152 : decode cX8_sign 152 = .ok (.aload_n 0, 1) := by decide +kernel
theorem dX8_sign_153 : decode cX8_sign 153 = .ok (.getfield 10, 3) := by decide +kernel
theorem dX8_sign_156 : decode cX8_sign 156 = .ok (.getfield 115, 3) := by decide +kernel
theorem dX8_sign_159 : decode cX8_sign 159 = .ok (.iload_n 2, 1) := by decide +kernel
theorem dX8_sign_160 : decode cX8_sign 160 = .ok (.iload_n 1, 1) := by decide +kernel
theorem dX8_sign_161 : decode cX8_sign 161 = .ok (.iload_n 2, 1) := by decide +kernel
theorem dX8_sign_162 : decode cX8_sign 162 = .ok (.ishr, 1) := by decide +kernel
theorem dX8_sign_163 : decode cX8_sign 163 = .ok (.invokestatic 125, 3) := by decide +kernel
theorem dX8_sign_166 : decode cX8_sign 166 = .ok (.iconst 1, 1) := by decide +kernel
theorem dX8_sign_167 : decode cX8_sign 167 = .ok (.ixor, 1) := by decide +kernel
theorem dX8_sign_168 : decode cX8_sign 168 = .ok (.istore_n 3, 1) := by decide +kernel
theorem dX8_sign_169 : decode cX8_sign 169 = .ok (.aload_n 0, 1) := by decide +kernel
theorem dX8_sign_170 : decode cX8_sign 170 = .ok (.getfield 54, 3) := by decide +kernel
theorem dX8_sign_173 : decode cX8_sign 173 = .ok (.getfield 162, 3) := by decide +kernel
theorem dX8_sign_176 : decode cX8_sign 176 = .ok (.bipush 35, 2) := by decide +kernel
theorem dX8_sign_178 : decode cX8_sign 178 = .ok (.iload_n 2, 1) := by decide +kernel
theorem dX8_sign_179 : decode cX8_sign 179 = .ok (.iadd, 1) := by decide +kernel
theorem dX8_sign_180 : decode cX8_sign 180 = .ok (.aload_n 0, 1) := by decide +kernel
theorem dX8_sign_181 : decode cX8_sign 181 = .ok (.getfield 33, 3) := by decide +kernel
theorem dX8_sign_184 : decode cX8_sign 184 = .ok (.getfield 122, 3) := by decide +kernel
theorem dX8_sign_187 : decode cX8_sign 187 = .ok (.iload_n 3, 1) := by decide +kernel
theorem dX8_sign_188 : decode cX8_sign 188 = .ok (.invokevirtual 173, 3) := by decide +kernel
theorem dX8_sign_191 : decode cX8_sign 191 = .ok (.iinc 2 1, 3) := by decide +kernel
theorem dX8_sign_194 : decode cX8_sign 194 = .ok (.goto (-53), 3) := by decide +kernel
theorem dX8_sign_197 : decode cX8_sign 197 = .ok (.iload_n 1, 1) := by decide +kernel
theorem dX8_sign_198 : decode cX8_sign 198 = .ok (.ireturn, 1) := by decide +kernel
theorem dX8_leaf_0 : decode cX8_leaf 0 = .ok (.aload_n 0, 1) := by decide +kernel
theorem dX8_leaf_1 : decode cX8_leaf 1 = .ok (.getfield 54, 3) := by decide +kernel
theorem dX8_leaf_4 : decode cX8_leaf 4 = .ok (.getfield 176, 3) := by decide +kernel
theorem dX8_leaf_7 : decode cX8_leaf 7 = .ok (.ireturn, 1) := by decide +kernel
set_option maxRecDepth 20000 in
theorem ggX8_part_X8_isHalf : GoodIn wsX8_part wsX8_isHalf := goodIn_r _ [6] (by decide +kernel) (by decide +kernel)
set_option maxRecDepth 20000 in
theorem gX8_part_X8_isHalf : GoodIn wsX8_part (va_wsS RX8 111 yX8_isHalf wsX8_isHalf) := goodIn_app (goodIn_of _ (by decide +kernel)) ggX8_part_X8_isHalf
set_option maxRecDepth 20000 in
theorem ggX8_part_X6_hasPart : GoodIn wsX8_part wsX6_hasPart := goodIn_r _ [11, 12, 28, 29, 30] (by decide +kernel) (by decide +kernel)
set_option maxRecDepth 20000 in
theorem gX8_part_X6_hasPart : GoodIn wsX8_part (wsV RX8 179 RX6 yX6_hasPart wsX6_hasPart) := goodIn_app (goodIn_of _ (by decide +kernel)) ggX8_part_X6_hasPart
set_option maxRecDepth 20000 in
theorem ggX8_part_X5_at : GoodIn wsX8_part wsX5_at := goodIn_r _ [17, 18, 31] (by decide +kernel) (by decide +kernel)
set_option maxRecDepth 20000 in
theorem gX8_part_X5_at : GoodIn wsX8_part (wsV RX8 129 RX5 yX5_at wsX5_at) := goodIn_app (goodIn_of _ (by decide +kernel)) ggX8_part_X5_at
theorem dX8_part_0 : decode cX8_part 0 = .ok (.iload_n 2, 1) := by decide +kernel
theorem dX8_part_1 : decode cX8_part 1 = .ok (.invokestatic 111, 3) := by decide +kernel
theorem dX8_part_4 : decode cX8_part 4 = .ok (.ifCond .eq 14, 3) := by decide +kernel
theorem dX8_part_7 : decode cX8_part 7 = .ok (.aload_n 0, 1) := by decide +kernel
theorem dX8_part_8 : decode cX8_part 8 = .ok (.getfield 54, 3) := by decide +kernel
theorem dX8_part_11 : decode cX8_part 11 = .ok (.iload_n 1, 1) := by decide +kernel
theorem dX8_part_12 : decode cX8_part 12 = .ok (.invokevirtual 179, 3) := by decide +kernel
theorem dX8_part_15 : decode cX8_part 15 = .ok (.ifCond .ne 5, 3) := by decide +kernel
theorem dX8_part_18 : decode cX8_part 18 = .ok (.lconst 0, 1) := by decide +kernel
theorem dX8_part_19 : decode cX8_part 19 = .ok (.lreturn, 1) := by decide +kernel
theorem dX8_part_20 : decode cX8_part 20 = .ok (.aload_n 0, 1) := by decide +kernel
theorem dX8_part_21 : decode cX8_part 21 = .ok (.getfield 54, 3) := by decide +kernel
theorem dX8_part_24 : decode cX8_part 24 = .ok (.getfield 162, 3) := by decide +kernel
theorem dX8_part_27 : decode cX8_part 27 = .ok (.iload_n 1, 1) := by decide +kernel
theorem dX8_part_28 : decode cX8_part 28 = .ok (.iload_n 2, 1) := by decide +kernel
theorem dX8_part_29 : decode cX8_part 29 = .ok (.invokevirtual 129, 3) := by decide +kernel
theorem dX8_part_32 : decode cX8_part 32 = .ok (.lreturn, 1) := by decide +kernel
set_option maxRecDepth 20000 in
theorem ggX8_setLeaf_X6_isThere : GoodIn wsX8_setLeaf wsX6_isThere := goodIn_r _ [7, 8, 18, 19, 20] (by decide +kernel) (by decide +kernel)
set_option maxRecDepth 20000 in
theorem gX8_setLeaf_X6_isThere : GoodIn wsX8_setLeaf (wsV RX8 182 RX6 yX6_isThere wsX6_isThere) := goodIn_app (goodIn_of _ (by decide +kernel)) ggX8_setLeaf_X6_isThere
theorem dX8_setLeaf_0 : decode cX8_setLeaf 0 = .ok (.aload_n 0, 1) := by decide +kernel
theorem dX8_setLeaf_1 : decode cX8_setLeaf 1 = .ok (.getfield 54, 3) := by decide +kernel
theorem dX8_setLeaf_4 : decode cX8_setLeaf 4 = .ok (.invokevirtual 182, 3) := by decide +kernel
theorem dX8_setLeaf_7 : decode cX8_setLeaf 7 = .ok (.ifCond .eq 7, 3) := by decide +kernel
theorem dX8_setLeaf_10 : decode cX8_setLeaf 10 = .ok (.iload_n 1, 1) := by decide +kernel
theorem dX8_setLeaf_11 : decode cX8_setLeaf 11 = .ok (.ifCond .ge 5, 3) := by decide +kernel
theorem dX8_setLeaf_14 : decode cX8_setLeaf 14 = .ok (.iconst 0, 1) := by decide +kernel
theorem dX8_setLeaf_15 : decode cX8_setLeaf 15 = .ok (.ireturn, 1) := by decide +kernel
theorem dX8_setLeaf_16 : decode cX8_setLeaf 16 = .ok (.aload_n 0, 1) := by decide +kernel
theorem dX8_setLeaf_17 : decode cX8_setLeaf 17 = .ok (.getfield 54, 3) := by decide +kernel
theorem dX8_setLeaf_20 : decode cX8_setLeaf 20 = .ok (.iload_n 1, 1) := by decide +kernel
theorem dX8_setLeaf_21 : decode cX8_setLeaf 21 = .ok (.putfield 176, 3) := by decide +kernel
theorem dX8_setLeaf_24 : decode cX8_setLeaf 24 = .ok (.iconst 1, 1) := by decide +kernel
theorem dX8_setLeaf_25 : decode cX8_setLeaf 25 = .ok (.ireturn, 1) := by decide +kernel
set_option maxRecDepth 20000 in
theorem ggX8_setPart_X8_isHalf : GoodIn wsX8_setPart wsX8_isHalf := goodIn_r _ [6] (by decide +kernel) (by decide +kernel)
set_option maxRecDepth 20000 in
theorem gX8_setPart_X8_isHalf : GoodIn wsX8_setPart (va_wsS RX8 111 yX8_isHalf wsX8_isHalf) := goodIn_app (goodIn_of _ (by decide +kernel)) ggX8_setPart_X8_isHalf
set_option maxRecDepth 20000 in
theorem ggX8_setPart_X6_hasPart : GoodIn wsX8_setPart wsX6_hasPart := goodIn_r _ [11, 12, 28, 29, 30] (by decide +kernel) (by decide +kernel)
set_option maxRecDepth 20000 in
theorem gX8_setPart_X6_hasPart : GoodIn wsX8_setPart (wsV RX8 179 RX6 yX6_hasPart wsX6_hasPart) := goodIn_app (goodIn_of _ (by decide +kernel)) ggX8_setPart_X6_hasPart
set_option maxRecDepth 20000 in
theorem ggX8_setPart_X5_put : GoodIn wsX8_setPart wsX5_put := goodIn_r _ [17, 18, 31] (by decide +kernel) (by decide +kernel)
set_option maxRecDepth 20000 in
theorem gX8_setPart_X5_put : GoodIn wsX8_setPart (wsV RX8 185 RX5 yX5_put wsX5_put) := goodIn_app (goodIn_of _ (by decide +kernel)) ggX8_setPart_X5_put
theorem dX8_setPart_0 : decode cX8_setPart 0 = .ok (.iload_n 2, 1) := by decide +kernel
theorem dX8_setPart_1 : decode cX8_setPart 1 = .ok (.invokestatic 111, 3) := by decide +kernel
theorem dX8_setPart_4 : decode cX8_setPart 4 = .ok (.ifCond .eq 14, 3) := by decide +kernel
theorem dX8_setPart_7 : decode cX8_setPart 7 = .ok (.aload_n 0, 1) := by decide +kernel
theorem dX8_setPart_8 : decode cX8_setPart 8 = .ok (.getfield 54, 3) := by decide +kernel
theorem dX8_setPart_11 : decode cX8_setPart 11 = .ok (.iload_n 1, 1) := by decide +kernel
theorem dX8_setPart_12 : decode cX8_setPart 12 = .ok (.invokevirtual 179, 3) := by decide +kernel
theorem dX8_setPart_15 : decode cX8_setPart 15 = .ok (.ifCond .ne 5, 3) := by decide +kernel
theorem dX8_setPart_18 : decode cX8_setPart 18 = .ok (.iconst 0, 1) := by decide +kernel
theorem dX8_setPart_19 : decode cX8_setPart 19 = .ok (.ireturn, 1) := by decide +kernel
theorem dX8_setPart_20 : decode cX8_setPart 20 = .ok (.aload_n 0, 1) := by decide +kernel
theorem dX8_setPart_21 : decode cX8_setPart 21 = .ok (.getfield 54, 3) := by decide +kernel
theorem dX8_setPart_24 : decode cX8_setPart 24 = .ok (.getfield 162, 3) := by decide +kernel
theorem dX8_setPart_27 : decode cX8_setPart 27 = .ok (.iload_n 1, 1) := by decide +kernel
theorem dX8_setPart_28 : decode cX8_setPart 28 = .ok (.iload_n 2, 1) := by decide +kernel
theorem dX8_setPart_29 : decode cX8_setPart 29 = .ok (.lload_n 3, 1) := by decide +kernel
theorem dX8_setPart_30 : decode cX8_setPart 30 = .ok (.invokevirtual 185, 3) := by decide +kernel
theorem dX8_setPart_33 : decode cX8_setPart 33 = .ok (.iconst 1, 1) := by decide +kernel
theorem dX8_setPart_34 : decode cX8_setPart 34 = .ok (.ireturn, 1) := by decide +kernel
set_option maxRecDepth 20000 in
theorem ggX8_tell_X8_isHalf : GoodIn wsX8_tell wsX8_isHalf := goodIn_r _ [5] (by decide +kernel) (by decide +kernel)
set_option maxRecDepth 20000 in
theorem gX8_tell_X8_isHalf : GoodIn wsX8_tell (va_wsS RX8 111 yX8_isHalf wsX8_isHalf) := goodIn_app (goodIn_of _ (by decide +kernel)) ggX8_tell_X8_isHalf
set_option maxRecDepth 20000 in
theorem ggX8_tell_X5_put : GoodIn wsX8_tell wsX5_put := goodIn_r _ [10, 11, 21] (by decide +kernel) (by decide +kernel)
set_option maxRecDepth 20000 in
theorem gX8_tell_X5_put : GoodIn wsX8_tell (wsV RX8 185 RX5 yX5_put wsX5_put) := goodIn_app (goodIn_of _ (by decide +kernel)) ggX8_tell_X5_put
theorem dX8_tell_0 : decode cX8_tell 0 = .ok (.iload_n 1, 1) := by decide +kernel
theorem dX8_tell_1 : decode cX8_tell 1 = .ok (.invokestatic 111, 3) := by decide +kernel
theorem dX8_tell_4 : decode cX8_tell 4 = .ok (.ifCond .ne 5, 3) := by decide +kernel
theorem dX8_tell_7 : decode cX8_tell 7 = .ok (.iconst 0, 1) := by decide +kernel
theorem dX8_tell_8 : decode cX8_tell 8 = .ok (.ireturn, 1) := by decide +kernel
theorem dX8_tell_9 : decode cX8_tell 9 = .ok (.aload_n 0, 1) := by decide +kernel
theorem dX8_tell_10 : decode cX8_tell 10 = .ok (.getfield 63, 3) := by decide +kernel
theorem dX8_tell_13 : decode cX8_tell 13 = .ok (.iconst 0, 1) := by decide +kernel
theorem dX8_tell_14 : decode cX8_tell 14 = .ok (.iload_n 1, 1) := by decide +kernel
theorem dX8_tell_15 : decode cX8_tell 15 = .ok (.lload_n 2, 1) := by decide +kernel
theorem dX8_tell_16 : decode cX8_tell 16 = .ok (.invokevirtual 185, 3) := by decide +kernel
theorem dX8_tell_19 : decode cX8_tell 19 = .ok (.iconst 1, 1) := by decide +kernel
theorem dX8_tell_20 : decode cX8_tell 20 = .ok (.ireturn, 1) := by decide +kernel
set_option maxRecDepth 20000 in
theorem ggX8_verify_X6_isThere : GoodIn wsX8_verify wsX6_isThere := goodIn_r _ [14, 15, 137, 138, 139] (by decide +kernel) (by decide +kernel)
set_option maxRecDepth 20000 in
theorem gX8_verify_X6_isThere : GoodIn wsX8_verify (wsV RX8 182 RX6 yX6_isThere wsX6_isThere) := goodIn_app (goodIn_of _ (by decide +kernel)) ggX8_verify_X6_isThere
set_option maxRecDepth 20000 in
theorem ggX8_verify_X3_hasLeaf : GoodIn wsX8_verify wsX3_hasLeaf := goodIn_r _ [20, 21, 22, 23, 19, 24, 25, 140, 141, 142, 143] (by decide +kernel) (by decide +kernel)
set_option maxRecDepth 20000 in
theorem gX8_verify_X3_hasLeaf : GoodIn wsX8_verify (wsV RX8 145 RX3 yX3_hasLeaf wsX3_hasLeaf) := goodIn_app (goodIn_of _ (by decide +kernel)) ggX8_verify_X3_hasLeaf
set_option maxRecDepth 20000 in
theorem ggX8_verify_X8_readDigits : GoodIn wsX8_verify wsX8_readDigits := goodIn_r _ [30, 8, 31, 32, 2, 6, 7, 33, 34, 35, 36, 37, 38, 39, 40, 41, 42, 43, 44, 45, 46, 47, 48, 49, 50, 51, 52, 53, 54, 55, 56, 57, 58, 59, 60, 61, 62, 63, 64, 65, 66, 67, 68, 69, 70, 71, 72, 73, 74, 75, 76, 128, 129, 130, 131, 132, 133, 134, 135, 136, 146, 147, 140, 141, 142, 143, 148, 149, 150, 151] (by decide +kernel) (by decide +kernel)
set_option maxRecDepth 20000 in
theorem gX8_verify_X8_readDigits : GoodIn wsX8_verify (wsV RX8 151 RX8 yX8_readDigits wsX8_readDigits) := goodIn_app (goodIn_of _ (by decide +kernel)) ggX8_verify_X8_readDigits
set_option maxRecDepth 20000 in
theorem ggX8_verify_X0_carryAllToEnds : GoodIn wsX8_verify wsX0_carryAllToEnds := goodIn_r _ [81, 82, 83, 84, 85, 86, 87, 88, 58, 89, 90, 56, 57, 59, 60, 91, 92, 93, 94, 95, 96, 97, 80, 98, 99, 100, 36, 37, 38, 39, 40, 41, 101, 43, 44, 45, 46, 47, 48, 49, 50, 102, 52, 53, 54, 55, 61, 103, 104, 105, 106, 107, 144, 145, 137, 138, 139, 151, 150, 148, 149] (by decide +kernel) (by decide +kernel)
set_option maxRecDepth 20000 in
theorem gX8_verify_X0_carryAllToEnds : GoodIn wsX8_verify (wsV RX8 189 RX0 yX0_carryAllToEnds wsX0_carryAllToEnds) := goodIn_app (goodIn_of _ (by decide +kernel)) ggX8_verify_X0_carryAllToEnds
set_option maxRecDepth 20000 in
theorem ggX8_verify_X2_hashLeaf : GoodIn wsX8_verify wsX2_hashLeaf := goodIn_r _ [111, 112, 36, 37, 38, 39, 40, 41, 61, 43, 44, 45, 46, 47, 48, 49, 50, 113, 52, 53, 54, 55, 56, 57, 58, 59, 60, 148, 149, 150] (by decide +kernel) (by decide +kernel)
set_option maxRecDepth 20000 in
theorem gX8_verify_X2_hashLeaf : GoodIn wsX8_verify (wsV RX8 103 RX2 yX2_hashLeaf wsX2_hashLeaf) := goodIn_app (goodIn_of _ (by decide +kernel)) ggX8_verify_X2_hashLeaf
set_option maxRecDepth 20000 in
theorem ggX8_verify_X8_climbToRoot : GoodIn wsX8_verify wsX8_climbToRoot := goodIn_r _ [117, 2, 118, 8, 33, 34, 1, 3, 6, 119, 120, 121, 122, 38, 123, 112, 36, 37, 39, 40, 41, 61, 43, 44, 45, 46, 47, 48, 49, 50, 42, 51, 52, 53, 54, 55, 56, 57, 58, 59, 60, 128, 129, 130, 131, 132, 133, 134, 135, 136, 140, 141, 142, 143, 148, 149, 137, 138, 139, 150] (by decide +kernel) (by decide +kernel)
set_option maxRecDepth 20000 in
theorem gX8_verify_X8_climbToRoot : GoodIn wsX8_verify (wsV RX8 193 RX8 yX8_climbToRoot wsX8_climbToRoot) := goodIn_app (goodIn_of _ (by decide +kernel)) ggX8_verify_X8_climbToRoot
set_option maxRecDepth 20000 in
theorem ggX8_verify_X2_gave : GoodIn wsX8_verify wsX2_gave := goodIn_r _ [127, 40, 41, 55, 56, 57, 58, 59, 60, 148, 149, 150] (by decide +kernel) (by decide +kernel)
set_option maxRecDepth 20000 in
theorem gX8_verify_X2_gave : GoodIn wsX8_verify (wsV RX8 196 RX2 yX2_gave wsX2_gave) := goodIn_app (goodIn_of _ (by decide +kernel)) ggX8_verify_X2_gave
theorem dX8_verify_0 : decode cX8_verify 0 = .ok (.aload_n 0, 1) := by decide +kernel
theorem dX8_verify_1 : decode cX8_verify 1 = .ok (.getfield 54, 3) := by decide +kernel
theorem dX8_verify_4 : decode cX8_verify 4 = .ok (.invokevirtual 182, 3) := by decide +kernel
theorem dX8_verify_7 : decode cX8_verify 7 = .ok (.ifCond .ne 5, 3) := by decide +kernel
theorem dX8_verify_10 : decode cX8_verify 10 = .ok (.iconst (-1), 1) := by decide +kernel
theorem dX8_verify_11 : decode cX8_verify 11 = .ok (.ireturn, 1) := by decide +kernel
theorem dX8_verify_12 : decode cX8_verify 12 = .ok (.aload_n 0, 1) := by decide +kernel
theorem dX8_verify_13 : decode cX8_verify 13 = .ok (.getfield 10, 3) := by decide +kernel
theorem dX8_verify_16 : decode cX8_verify 16 = .ok (.aload_n 0, 1) := by decide +kernel
theorem dX8_verify_17 : decode cX8_verify 17 = .ok (.getfield 54, 3) := by decide +kernel
theorem dX8_verify_20 : decode cX8_verify 20 = .ok (.getfield 176, 3) := by decide +kernel
theorem dX8_verify_23 : decode cX8_verify 23 = .ok (.invokevirtual 145, 3) := by decide +kernel
theorem dX8_verify_26 : decode cX8_verify 26 = .ok (.ifCond .ne 5, 3) := by decide +kernel
theorem dX8_verify_29 : decode cX8_verify 29 = .ok (.iconst 1, 1) := by decide +kernel
theorem dX8_verify_30 : decode cX8_verify 30 = .ok (.ireturn, 1) := by decide +kernel
theorem dX8_verify_31 : decode cX8_verify 31 = .ok (.aload_n 0, 1) := by decide +kernel
theorem dX8_verify_32 : decode cX8_verify 32 = .ok (.aload_n 0, 1) := by decide +kernel
theorem dX8_verify_33 : decode cX8_verify 33 = .ok (.getfield 54, 3) := by decide +kernel
theorem dX8_verify_36 : decode cX8_verify 36 = .ok (.getfield 176, 3) := by decide +kernel
theorem dX8_verify_39 : decode cX8_verify 39 = .ok (.aload_n 0, 1) := by decide +kernel
theorem dX8_verify_40 : decode cX8_verify 40 = .ok (.getfield 63, 3) := by decide +kernel
theorem dX8_verify_43 : decode cX8_verify 43 = .ok (.iconst 0, 1) := by decide +kernel
theorem dX8_verify_44 : decode cX8_verify 44 = .ok (.invokevirtual 151, 3) := by decide +kernel
theorem dX8_verify_47 : decode cX8_verify 47 = .ok (.aload_n 0, 1) := by decide +kernel
theorem dX8_verify_48 : decode cX8_verify 48 = .ok (.getfield 26, 3) := by decide +kernel
theorem dX8_verify_51 : decode cX8_verify 51 = .ok (.aload_n 0, 1) := by decide +kernel
theorem dX8_verify_52 : decode cX8_verify 52 = .ok (.getfield 10, 3) := by decide +kernel
theorem dX8_verify_55 : decode cX8_verify 55 = .ok (.getfield 96, 3) := by decide +kernel
theorem dX8_verify_58 : decode cX8_verify 58 = .ok (.aload_n 0, 1) := by decide +kernel
theorem dX8_verify_59 : decode cX8_verify 59 = .ok (.getfield 54, 3) := by decide +kernel
theorem dX8_verify_62 : decode cX8_verify 62 = .ok (.aload_n 0, 1) := by decide +kernel
theorem dX8_verify_63 : decode cX8_verify 63 = .ok (.getfield 47, 3) := by decide +kernel
theorem dX8_verify_66 : decode cX8_verify 66 = .ok (.invokevirtual 189, 3) := by decide +kernel
theorem dX8_verify_69 : decode cX8_verify 69 = .ok (.aload_n 0, 1) := by decide +kernel
theorem dX8_verify_70 : decode cX8_verify 70 = .ok (.getfield 19, 3) := by decide +kernel
theorem dX8_verify_73 : decode cX8_verify 73 = .ok (.aload_n 0, 1) := by decide +kernel
theorem dX8_verify_74 : decode cX8_verify 74 = .ok (.getfield 10, 3) := by decide +kernel
theorem dX8_verify_77 : decode cX8_verify 77 = .ok (.getfield 96, 3) := by decide +kernel
theorem dX8_verify_80 : decode cX8_verify 80 = .ok (.aload_n 0, 1) := by decide +kernel
theorem dX8_verify_81 : decode cX8_verify 81 = .ok (.getfield 54, 3) := by decide +kernel
theorem dX8_verify_84 : decode cX8_verify 84 = .ok (.getfield 176, 3) := by decide +kernel
theorem dX8_verify_87 : decode cX8_verify 87 = .ok (.aload_n 0, 1) := by decide +kernel
theorem dX8_verify_88 : decode cX8_verify 88 = .ok (.getfield 26, 3) := by decide +kernel
theorem dX8_verify_91 : decode cX8_verify 91 = .ok (.getfield 100, 3) := by decide +kernel
theorem dX8_verify_94 : decode cX8_verify 94 = .ok (.invokevirtual 103, 3) := by decide +kernel
theorem dX8_verify_97 : decode cX8_verify 97 = .ok (.aload_n 0, 1) := by decide +kernel
theorem dX8_verify_98 : decode cX8_verify 98 = .ok (.invokevirtual 193, 3) := by decide +kernel
theorem dX8_verify_101 : decode cX8_verify 101 = .ok (.aload_n 0, 1) := by decide +kernel
theorem dX8_verify_102 : decode cX8_verify 102 = .ok (.getfield 19, 3) := by decide +kernel
theorem dX8_verify_105 : decode cX8_verify 105 = .ok (.aload_n 0, 1) := by decide +kernel
theorem dX8_verify_106 : decode cX8_verify 106 = .ok (.getfield 63, 3) := by decide +kernel
theorem dX8_verify_109 : decode cX8_verify 109 = .ok (.iconst 0, 1) := by decide +kernel
theorem dX8_verify_110 : decode cX8_verify 110 = .ok (.invokevirtual 196, 3) := by decide +kernel
theorem dX8_verify_113 : decode cX8_verify 113 = .ok (.ifCond .eq 7, 3) := by decide +kernel
theorem dX8_verify_116 : decode cX8_verify 116 = .ok (.iconst 0, 1) := by decide +kernel
theorem dX8_verify_117 : decode cX8_verify 117 = .ok (.goto 4, 3) := by decide +kernel
theorem dX8_verify_120 : decode cX8_verify 120 = .ok (.iconst 2, 1) := by decide +kernel
theorem dX8_verify_121 : decode cX8_verify 121 = .ok (.ireturn, 1) := by decide +kernel
set_option maxRecDepth 20000 in
theorem ggX8_hash_X8_isHalf : GoodIn wsX8_hash wsX8_isHalf := goodIn_r _ [9] (by decide +kernel) (by decide +kernel)
set_option maxRecDepth 20000 in
theorem gX8_hash_X8_isHalf : GoodIn wsX8_hash (va_wsS RX8 111 yX8_isHalf wsX8_isHalf) := goodIn_app (goodIn_of _ (by decide +kernel)) ggX8_hash_X8_isHalf
set_option maxRecDepth 20000 in
theorem ggX8_hash_X2_start : GoodIn wsX8_hash wsX2_start := goodIn_r _ [14, 15, 16, 43, 44] (by decide +kernel) (by decide +kernel)
set_option maxRecDepth 20000 in
theorem gX8_hash_X2_start : GoodIn wsX8_hash (wsV RX8 200 RX2 yX2_start wsX2_start) := goodIn_app (goodIn_of _ (by decide +kernel)) ggX8_hash_X2_start
set_option maxRecDepth 20000 in
theorem ggX8_hash_X2_addMessage : GoodIn wsX8_hash wsX2_addMessage := goodIn_r _ [20, 21, 22, 23, 24, 25, 13, 26, 15, 16, 27, 28, 29, 30, 31, 41, 42, 43, 44] (by decide +kernel) (by decide +kernel)
set_option maxRecDepth 20000 in
theorem gX8_hash_X2_addMessage : GoodIn wsX8_hash (wsV RX8 203 RX2 yX2_addMessage wsX2_addMessage) := goodIn_app (goodIn_of _ (by decide +kernel)) ggX8_hash_X2_addMessage
theorem dX8_hash_0 : decode cX8_hash 0 = .ok (.iload_n 2, 1) := by decide +kernel
theorem dX8_hash_1 : decode cX8_hash 1 = .ok (.invokestatic 111, 3) := by decide +kernel
theorem dX8_hash_4 : decode cX8_hash 4 = .ok (.ifCond .ne 5, 3) := by decide +kernel
theorem dX8_hash_7 : decode cX8_hash 7 = .ok (.lconst 0, 1) := by decide +kernel
theorem dX8_hash_8 : decode cX8_hash 8 = .ok (.lreturn, 1) := by decide +kernel
theorem dX8_hash_9 : decode cX8_hash 9 = .ok (.aload_n 0, 1) := by decide +kernel
theorem dX8_hash_10 : decode cX8_hash 10 = .ok (.getfield 19, 3) := by decide +kernel
theorem dX8_hash_13 : decode cX8_hash 13 = .ok (.iload_n 1, 1) := by decide +kernel
theorem dX8_hash_14 : decode cX8_hash 14 = .ok (.aload_n 0, 1) := by decide +kernel
theorem dX8_hash_15 : decode cX8_hash 15 = .ok (.getfield 40, 3) := by decide +kernel
theorem dX8_hash_18 : decode cX8_hash 18 = .ok (.getfield 141, 3) := by decide +kernel
theorem dX8_hash_21 : decode cX8_hash 21 = .ok (.invokevirtual 200, 3) := by decide +kernel
theorem dX8_hash_24 : decode cX8_hash 24 = .ok (.aload_n 0, 1) := by decide +kernel
theorem dX8_hash_25 : decode cX8_hash 25 = .ok (.getfield 19, 3) := by decide +kernel
theorem dX8_hash_28 : decode cX8_hash 28 = .ok (.aload_n 0, 1) := by decide +kernel
theorem dX8_hash_29 : decode cX8_hash 29 = .ok (.getfield 40, 3) := by decide +kernel
theorem dX8_hash_32 : decode cX8_hash 32 = .ok (.invokevirtual 203, 3) := by decide +kernel
theorem dX8_hash_35 : decode cX8_hash 35 = .ok (.iload_n 2, 1) := by decide +kernel
theorem dX8_hash_36 : decode cX8_hash 36 = .ok (.ifCond .ne 13, 3) := by decide +kernel
theorem dX8_hash_39 : decode cX8_hash 39 = .ok (.aload_n 0, 1) := by decide +kernel
theorem dX8_hash_40 : decode cX8_hash 40 = .ok (.getfield 19, 3) := by decide +kernel
theorem dX8_hash_43 : decode cX8_hash 43 = .ok (.getfield 207, 3) := by decide +kernel
theorem dX8_hash_46 : decode cX8_hash 46 = .ok (.goto 10, 3) := by decide +kernel
theorem dX8_hash_49 : decode cX8_hash 49 = .ok (.aload_n 0, 1) := by decide +kernel
theorem dX8_hash_50 : decode cX8_hash 50 = .ok (.getfield 19, 3) := by decide +kernel
theorem dX8_hash_53 : decode cX8_hash 53 = .ok (.getfield 210, 3) := by decide +kernel
theorem dX8_hash_56 : decode cX8_hash 56 = .ok (.lreturn, 1) := by decide +kernel
set_option maxRecDepth 20000 in
theorem ggX8_count_X3_leaves : GoodIn wsX8_count wsX3_leaves := goodIn_r _ [13, 14, 31, 32, 33, 34] (by decide +kernel) (by decide +kernel)
set_option maxRecDepth 20000 in
theorem gX8_count_X3_leaves : GoodIn wsX8_count (wsV RX8 79 RX3 yX3_leaves wsX3_leaves) := goodIn_app (goodIn_of _ (by decide +kernel)) ggX8_count_X3_leaves
theorem dX8_count_0 : decode cX8_count 0 = .ok (.iload_n 1, 1) := by decide +kernel
theorem dX8_count_1 : decode cX8_count 1 = .ok (.tableswitch 72 0 4 #[35, 43, 51, 56, 64], 35) := by decide +kernel
theorem dX8_count_36 : decode cX8_count 36 = .ok (.aload_n 0, 1) := by decide +kernel
theorem dX8_count_37 : decode cX8_count 37 = .ok (.getfield 10, 3) := by decide +kernel
theorem dX8_count_40 : decode cX8_count 40 = .ok (.invokevirtual 79, 3) := by decide +kernel
theorem dX8_count_43 : decode cX8_count 43 = .ok (.ireturn, 1) := by decide +kernel
theorem dX8_count_44 : decode cX8_count 44 = .ok (.aload_n 0, 1) := by decide +kernel
theorem dX8_count_45 : decode cX8_count 45 = .ok (.getfield 33, 3) := by decide +kernel
theorem dX8_count_48 : decode cX8_count 48 = .ok (.getfield 83, 3) := by decide +kernel
theorem dX8_count_51 : decode cX8_count 51 = .ok (.ireturn, 1) := by decide +kernel
theorem dX8_count_52 : decode cX8_count 52 = .ok (.aload_n 0, 1) := by decide +kernel
theorem dX8_count_53 : decode cX8_count 53 = .ok (.getfield 67, 3) := by decide +kernel
theorem dX8_count_56 : decode cX8_count 56 = .ok (.ireturn, 1) := by decide +kernel
theorem dX8_count_57 : decode cX8_count 57 = .ok (.aload_n 0, 1) := by decide +kernel
theorem dX8_count_58 : decode cX8_count 58 = .ok (.getfield 40, 3) := by decide +kernel
theorem dX8_count_61 : decode cX8_count 61 = .ok (.getfield 141, 3) := by decide +kernel
theorem dX8_count_64 : decode cX8_count 64 = .ok (.ireturn, 1) := by decide +kernel
theorem dX8_count_65 : decode cX8_count 65 = .ok (.aload_n 0, 1) := by decide +kernel
theorem dX8_count_66 : decode cX8_count 66 = .ok (.getfield 54, 3) := by decide +kernel
theorem dX8_count_69 : decode cX8_count 69 = .ok (.getfield 213, 3) := by decide +kernel
theorem dX8_count_72 : decode cX8_count 72 = .ok (.ireturn, 1) := by decide +kernel
theorem dX8_count_73 : decode cX8_count 73 = .ok (.iconst (-1), 1) := by decide +kernel
theorem dX8_count_74 : decode cX8_count 74 = .ok (.ireturn, 1) := by decide +kernel
set_option maxRecDepth 20000 in
theorem ggX8_check_X7_hashNode : GoodIn wsX8_check wsX7_hashNode := goodIn_r _ [11, 12, 13, 14, 15, 16, 17, 18, 19, 20, 21, 22, 23, 24, 25, 26, 27, 28, 29, 30, 31, 32, 33, 34, 35, 36, 10, 37, 38, 39, 40, 41, 42, 43, 44, 45, 46, 47, 62, 63, 64, 65, 66, 67, 68, 69, 70] (by decide +kernel) (by decide +kernel)
set_option maxRecDepth 20000 in
theorem gX8_check_X7_hashNode : GoodIn wsX8_check (wsV RX8 214 RX7 yX7_hashNode wsX7_hashNode) := goodIn_app (goodIn_of _ (by decide +kernel)) ggX8_check_X7_hashNode
set_option maxRecDepth 20000 in
theorem ggX8_check_X7_slot : GoodIn wsX8_check wsX7_slot := goodIn_r _ [37] (by decide +kernel) (by decide +kernel)
set_option maxRecDepth 20000 in
theorem gX8_check_X7_slot : GoodIn wsX8_check (va_wsS RX8 125 yX7_slot wsX7_slot) := goodIn_app (goodIn_of _ (by decide +kernel)) ggX8_check_X7_slot
set_option maxRecDepth 20000 in
theorem ggX8_check_X2_gave : GoodIn wsX8_check wsX2_gave := goodIn_r _ [52, 24, 25, 42, 43, 44, 45, 46, 47, 68, 69, 70] (by decide +kernel) (by decide +kernel)
set_option maxRecDepth 20000 in
theorem gX8_check_X2_gave : GoodIn wsX8_check (wsV RX8 196 RX2 yX2_gave wsX2_gave) := goodIn_app (goodIn_of _ (by decide +kernel)) ggX8_check_X2_gave
theorem dX8_check_0 : decode cX8_check 0 = .ok (.iconst 1, 1) := by decide +kernel
theorem dX8_check_1 : decode cX8_check 1 = .ok (.istore_n 1, 1) := by decide +kernel
theorem dX8_check_2 : decode cX8_check 2 = .ok (.iload_n 1, 1) := by decide +kernel
theorem dX8_check_3 : decode cX8_check 3 = .ok (.aload_n 0, 1) := by decide +kernel
theorem dX8_check_4 : decode cX8_check 4 = .ok (.getfield 10, 3) := by decide +kernel
theorem dX8_check_7 : decode cX8_check 7 = .ok (.getfield 115, 3) := by decide +kernel
theorem dX8_check_10 : decode cX8_check 10 = .ok (.if_icmp .gt 80, 3) := by decide +kernel
theorem dX8_check_13 : decode cX8_check 13 = .ok (.aload_n 0, 1) := by decide +kernel
theorem dX8_check_14 : decode cX8_check 14 = .ok (.getfield 33, 3) := by decide +kernel
theorem dX8_check_17 : decode cX8_check 17 = .ok (.getfield 83, 3) := by decide +kernel
theorem dX8_check_20 : decode cX8_check 20 = .ok (.iload_n 1, 1) := by decide +kernel
theorem dX8_check_21 : decode cX8_check 21 = .ok (.ishr, 1) := by decide +kernel
theorem dX8_check_22 : decode cX8_check 22 = .ok (.istore_n 2, 1) := by decide +kernel
theorem dX8_check_23 : decode cX8_check 23 = .ok (.iconst 0, 1) := by decide +kernel
theorem dX8_check_24 : decode cX8_check 24 = .ok (.istore_n 3, 1) := by decide +kernel
theorem dX8_check_25 : decode cX8_check 25 = .ok (.iload_n 3, 1) := by decide +kernel
theorem dX8_check_26 : decode cX8_check 26 = .ok (.iload_n 2, 1) := by decide +kernel
theorem dX8_check_27 : decode cX8_check 27 = .ok (.if_icmp .ge 57, 3) := by decide +kernel
theorem dX8_check_30 : decode cX8_check 30 = .ok (.aload_n 0, 1) := by decide +kernel
theorem dX8_check_31 : decode cX8_check 31 = .ok (.getfield 33, 3) := by decide +kernel
theorem dX8_check_34 : decode cX8_check 34 = .ok (.aload_n 0, 1) := by decide +kernel
theorem dX8_check_35 : decode cX8_check 35 = .ok (.getfield 10, 3) := by decide +kernel
theorem dX8_check_38 : decode cX8_check 38 = .ok (.iload_n 1, 1) := by decide +kernel
theorem dX8_check_39 : decode cX8_check 39 = .ok (.iload_n 3, 1) := by decide +kernel
theorem dX8_check_40 : decode cX8_check 40 = .ok (.aload_n 0, 1) := by decide +kernel
theorem dX8_check_41 : decode cX8_check 41 = .ok (.getfield 19, 3) := by decide +kernel
theorem dX8_check_44 : decode cX8_check 44 = .ok (.invokevirtual 214, 3) := by decide +kernel
theorem dX8_check_47 : decode cX8_check 47 = .ok (.aload_n 0, 1) := by decide +kernel
theorem dX8_check_48 : decode cX8_check 48 = .ok (.getfield 19, 3) := by decide +kernel
theorem dX8_check_51 : decode cX8_check 51 = .ok (.aload_n 0, 1) := by decide +kernel
theorem dX8_check_52 : decode cX8_check 52 = .ok (.getfield 33, 3) := by decide +kernel
theorem dX8_check_55 : decode cX8_check 55 = .ok (.getfield 122, 3) := by decide +kernel
theorem dX8_check_58 : decode cX8_check 58 = .ok (.aload_n 0, 1) := by decide +kernel
theorem dX8_check_59 : decode cX8_check 59 = .ok (.getfield 10, 3) := by decide +kernel
theorem dX8_check_62 : decode cX8_check 62 = .ok (.getfield 115, 3) := by decide +kernel
theorem dX8_check_65 : decode cX8_check 65 = .ok (.iload_n 1, 1) := by decide +kernel
theorem dX8_check_66 : decode cX8_check 66 = .ok (.iload_n 3, 1) := by decide +kernel
theorem dX8_check_67 : decode cX8_check 67 = .ok (.invokestatic 125, 3) := by decide +kernel
theorem dX8_check_70 : decode cX8_check 70 = .ok (.invokevirtual 196, 3) := by decide +kernel
theorem dX8_check_73 : decode cX8_check 73 = .ok (.ifCond .ne 5, 3) := by decide +kernel
theorem dX8_check_76 : decode cX8_check 76 = .ok (.iconst 0, 1) := by decide +kernel
theorem dX8_check_77 : decode cX8_check 77 = .ok (.ireturn, 1) := by decide +kernel
theorem dX8_check_78 : decode cX8_check 78 = .ok (.iinc 3 1, 3) := by decide +kernel
theorem dX8_check_81 : decode cX8_check 81 = .ok (.goto (-56), 3) := by decide +kernel
theorem dX8_check_84 : decode cX8_check 84 = .ok (.iinc 1 1, 3) := by decide +kernel
theorem dX8_check_87 : decode cX8_check 87 = .ok (.goto (-85), 3) := by decide +kernel
theorem dX8_check_90 : decode cX8_check 90 = .ok (.iconst 1, 1) := by decide +kernel
theorem dX8_check_91 : decode cX8_check 91 = .ok (.ireturn, 1) := by decide +kernel
theorem dX8_isHalf_0 : decode cX8_isHalf 0 = .ok (.iload_n 0, 1) := by decide +kernel
theorem dX8_isHalf_1 : decode cX8_isHalf 1 = .ok (.ifCond .eq 8, 3) := by decide +kernel
theorem dX8_isHalf_4 : decode cX8_isHalf 4 = .ok (.iload_n 0, 1) := by decide +kernel
theorem dX8_isHalf_5 : decode cX8_isHalf 5 = .ok (.iconst 1, 1) := by decide +kernel
theorem dX8_isHalf_6 : decode cX8_isHalf 6 = .ok (.if_icmp .ne 7, 3) := by decide +kernel
theorem dX8_isHalf_9 : decode cX8_isHalf 9 = .ok (.iconst 1, 1) := by decide +kernel
theorem dX8_isHalf_10 : decode cX8_isHalf 10 = .ok (.goto 4, 3) := by decide +kernel
theorem dX8_isHalf_13 : decode cX8_isHalf 13 = .ok (.iconst 0, 1) := by decide +kernel
theorem dX8_isHalf_14 : decode cX8_isHalf 14 = .ok (.ireturn, 1) := by decide +kernel
set_option maxRecDepth 20000 in
theorem ggX8_isRootMade_X7_isMade : GoodIn wsX8_isRootMade wsX7_isMade := goodIn_r _ [8, 9, 23, 24] (by decide +kernel) (by decide +kernel)
set_option maxRecDepth 20000 in
theorem gX8_isRootMade_X7_isMade : GoodIn wsX8_isRootMade (wsV RX8 118 RX7 yX7_isMade wsX7_isMade) := goodIn_app (goodIn_of _ (by decide +kernel)) ggX8_isRootMade_X7_isMade
theorem dX8_isRootMade_0 : decode cX8_isRootMade 0 = .ok (.aload_n 0, 1) := by decide +kernel
theorem dX8_isRootMade_1 : decode cX8_isRootMade 1 = .ok (.getfield 33, 3) := by decide +kernel
theorem dX8_isRootMade_4 : decode cX8_isRootMade 4 = .ok (.aload_n 0, 1) := by decide +kernel
theorem dX8_isRootMade_5 : decode cX8_isRootMade 5 = .ok (.getfield 10, 3) := by decide +kernel
theorem dX8_isRootMade_8 : decode cX8_isRootMade 8 = .ok (.getfield 115, 3) := by decide +kernel
theorem dX8_isRootMade_11 : decode cX8_isRootMade 11 = .ok (.aload_n 0, 1) := by decide +kernel
theorem dX8_isRootMade_12 : decode cX8_isRootMade 12 = .ok (.getfield 10, 3) := by decide +kernel
theorem dX8_isRootMade_15 : decode cX8_isRootMade 15 = .ok (.getfield 115, 3) := by decide +kernel
theorem dX8_isRootMade_18 : decode cX8_isRootMade 18 = .ok (.iconst 0, 1) := by decide +kernel
theorem dX8_isRootMade_19 : decode cX8_isRootMade 19 = .ok (.invokevirtual 118, 3) := by decide +kernel
theorem dX8_isRootMade_22 : decode cX8_isRootMade 22 = .ok (.ireturn, 1) := by decide +kernel
set_option maxRecDepth 20000 in
theorem ggX8_readDigits_X2_start : GoodIn wsX8_readDigits wsX2_start := goodIn_r _ [13, 14, 15, 66, 67] (by decide +kernel) (by decide +kernel)
set_option maxRecDepth 20000 in
theorem gX8_readDigits_X2_start : GoodIn wsX8_readDigits (wsV RX8 200 RX2 yX2_start wsX2_start) := goodIn_app (goodIn_of _ (by decide +kernel)) ggX8_readDigits_X2_start
set_option maxRecDepth 20000 in
theorem ggX8_readDigits_X2_add : GoodIn wsX8_readDigits wsX2_add := goodIn_r _ [19, 14, 15, 20, 21, 12, 22, 23, 24, 66, 67] (by decide +kernel) (by decide +kernel)
set_option maxRecDepth 20000 in
theorem gX8_readDigits_X2_add : GoodIn wsX8_readDigits (wsV RX8 218 RX2 yX2_add wsX2_add) := goodIn_app (goodIn_of _ (by decide +kernel)) ggX8_readDigits_X2_add
set_option maxRecDepth 20000 in
theorem ggX8_readDigits_X2_addPair : GoodIn wsX8_readDigits wsX2_addPair := goodIn_r _ [28, 29, 30, 31, 32, 33, 34, 35, 17, 18, 12, 19, 14, 15, 20, 21, 22, 23, 24, 68, 66, 67] (by decide +kernel) (by decide +kernel)
set_option maxRecDepth 20000 in
theorem gX8_readDigits_X2_addPair : GoodIn wsX8_readDigits (wsV RX8 221 RX2 yX2_addPair wsX2_addPair) := goodIn_app (goodIn_of _ (by decide +kernel)) ggX8_readDigits_X2_addPair
set_option maxRecDepth 20000 in
theorem ggX8_readDigits_X2_addMessage : GoodIn wsX8_readDigits wsX2_addMessage := goodIn_r _ [39, 40, 41, 35, 17, 18, 12, 19, 14, 15, 20, 21, 22, 23, 24, 60, 61, 66, 67] (by decide +kernel) (by decide +kernel)
set_option maxRecDepth 20000 in
theorem gX8_readDigits_X2_addMessage : GoodIn wsX8_readDigits (wsV RX8 203 RX2 yX2_addMessage wsX2_addMessage) := goodIn_app (goodIn_of _ (by decide +kernel)) ggX8_readDigits_X2_addMessage
set_option maxRecDepth 20000 in
theorem ggX8_readDigits_X1_read : GoodIn wsX8_readDigits wsX1_read := goodIn_r _ [46, 47, 48, 49, 45, 50, 69] (by decide +kernel) (by decide +kernel)
set_option maxRecDepth 20000 in
theorem gX8_readDigits_X1_read : GoodIn wsX8_readDigits (wsV RX8 225 RX1 yX1_read wsX1_read) := goodIn_app (goodIn_of _ (by decide +kernel)) ggX8_readDigits_X1_read
theorem dX8_readDigits_0 : decode cX8_readDigits 0 = .ok (.aload_n 0, 1) := by decide +kernel
theorem dX8_readDigits_1 : decode cX8_readDigits 1 = .ok (.getfield 19, 3) := by decide +kernel
theorem dX8_readDigits_4 : decode cX8_readDigits 4 = .ok (.iconst 5, 1) := by decide +kernel
theorem dX8_readDigits_5 : decode cX8_readDigits 5 = .ok (.iconst 4, 1) := by decide +kernel
theorem dX8_readDigits_6 : decode cX8_readDigits 6 = .ok (.aload_n 0, 1) := by decide +kernel
theorem dX8_readDigits_7 : decode cX8_readDigits 7 = .ok (.getfield 40, 3) := by decide +kernel
theorem dX8_readDigits_10 : decode cX8_readDigits 10 = .ok (.getfield 141, 3) := by decide +kernel
theorem dX8_readDigits_13 : decode cX8_readDigits 13 = .ok (.iadd, 1) := by decide +kernel
theorem dX8_readDigits_14 : decode cX8_readDigits 14 = .ok (.invokevirtual 200, 3) := by decide +kernel
theorem dX8_readDigits_17 : decode cX8_readDigits 17 = .ok (.aload_n 0, 1) := by decide +kernel
theorem dX8_readDigits_18 : decode cX8_readDigits 18 = .ok (.getfield 19, 3) := by decide +kernel
theorem dX8_readDigits_21 : decode cX8_readDigits 21 = .ok (.aload_n 0, 1) := by decide +kernel
theorem dX8_readDigits_22 : decode cX8_readDigits 22 = .ok (.getfield 10, 3) := by decide +kernel
theorem dX8_readDigits_25 : decode cX8_readDigits 25 = .ok (.getfield 96, 3) := by decide +kernel
theorem dX8_readDigits_28 : decode cX8_readDigits 28 = .ok (.invokevirtual 218, 3) := by decide +kernel
theorem dX8_readDigits_31 : decode cX8_readDigits 31 = .ok (.aload_n 0, 1) := by decide +kernel
theorem dX8_readDigits_32 : decode cX8_readDigits 32 = .ok (.getfield 19, 3) := by decide +kernel
theorem dX8_readDigits_35 : decode cX8_readDigits 35 = .ok (.iload_n 1, 1) := by decide +kernel
theorem dX8_readDigits_36 : decode cX8_readDigits 36 = .ok (.i2l, 1) := by decide +kernel
theorem dX8_readDigits_37 : decode cX8_readDigits 37 = .ok (.invokevirtual 218, 3) := by decide +kernel
theorem dX8_readDigits_40 : decode cX8_readDigits 40 = .ok (.aload_n 0, 1) := by decide +kernel
theorem dX8_readDigits_41 : decode cX8_readDigits 41 = .ok (.getfield 19, 3) := by decide +kernel
theorem dX8_readDigits_44 : decode cX8_readDigits 44 = .ok (.aload_n 2, 1) := by decide +kernel
theorem dX8_readDigits_45 : decode cX8_readDigits 45 = .ok (.iload_n 3, 1) := by decide +kernel
theorem dX8_readDigits_46 : decode cX8_readDigits 46 = .ok (.invokevirtual 221, 3) := by decide +kernel
theorem dX8_readDigits_49 : decode cX8_readDigits 49 = .ok (.aload_n 0, 1) := by decide +kernel
theorem dX8_readDigits_50 : decode cX8_readDigits 50 = .ok (.getfield 19, 3) := by decide +kernel
theorem dX8_readDigits_53 : decode cX8_readDigits 53 = .ok (.aload_n 0, 1) := by decide +kernel
theorem dX8_readDigits_54 : decode cX8_readDigits 54 = .ok (.getfield 40, 3) := by decide +kernel
theorem dX8_readDigits_57 : decode cX8_readDigits 57 = .ok (.invokevirtual 203, 3) := by decide +kernel
theorem dX8_readDigits_60 : decode cX8_readDigits 60 = .ok (.aload_n 0, 1) := by decide +kernel
theorem dX8_readDigits_61 : decode cX8_readDigits 61 = .ok (.getfield 47, 3) := by decide +kernel
theorem dX8_readDigits_64 : decode cX8_readDigits 64 = .ok (.aload_n 0, 1) := by decide +kernel
theorem dX8_readDigits_65 : decode cX8_readDigits 65 = .ok (.getfield 19, 3) := by decide +kernel
theorem dX8_readDigits_68 : decode cX8_readDigits 68 = .ok (.getfield 207, 3) := by decide +kernel
theorem dX8_readDigits_71 : decode cX8_readDigits 71 = .ok (.aload_n 0, 1) := by decide +kernel
theorem dX8_readDigits_72 : decode cX8_readDigits 72 = .ok (.getfield 19, 3) := by decide +kernel
theorem dX8_readDigits_75 : decode cX8_readDigits 75 = .ok (.getfield 210, 3) := by decide +kernel
theorem dX8_readDigits_78 : decode cX8_readDigits 78 = .ok (.invokevirtual 225, 3) := by decide +kernel
theorem dX8_readDigits_81 : decode cX8_readDigits 81 = .ok (.return_, 1) := by decide +kernel
set_option maxRecDepth 20000 in
theorem ggX8_climbToRoot_X2_startNode : GoodIn wsX8_climbToRoot wsX2_startNode := goodIn_r _ [14, 15, 16, 17, 13, 18, 19, 20, 21, 22, 23, 24, 25, 26, 27, 28, 29, 54, 55] (by decide +kernel) (by decide +kernel)
set_option maxRecDepth 20000 in
theorem gX8_climbToRoot_X2_startNode : GoodIn wsX8_climbToRoot (wsV RX8 229 RX2 yX2_startNode wsX2_startNode) := goodIn_app (goodIn_of _ (by decide +kernel)) ggX8_climbToRoot_X2_startNode
set_option maxRecDepth 20000 in
theorem ggX8_climbToRoot_X2_add : GoodIn wsX8_climbToRoot wsX2_add := goodIn_r _ [24, 19, 20, 25, 26, 13, 27, 28, 29, 54, 55] (by decide +kernel) (by decide +kernel)
set_option maxRecDepth 20000 in
theorem gX8_climbToRoot_X2_add : GoodIn wsX8_climbToRoot (wsV RX8 218 RX2 yX2_add wsX2_add) := goodIn_app (goodIn_of _ (by decide +kernel)) ggX8_climbToRoot_X2_add
set_option maxRecDepth 20000 in
theorem ggX8_climbToRoot_X2_addPair : GoodIn wsX8_climbToRoot wsX2_addPair := goodIn_r _ [34, 35, 36, 37, 38, 39, 40, 21, 22, 23, 13, 24, 19, 20, 25, 26, 27, 28, 29, 59, 54, 55] (by decide +kernel) (by decide +kernel)
set_option maxRecDepth 20000 in
theorem gX8_climbToRoot_X2_addPair : GoodIn wsX8_climbToRoot (wsV RX8 221 RX2 yX2_addPair wsX2_addPair) := goodIn_app (goodIn_of _ (by decide +kernel)) ggX8_climbToRoot_X2_addPair
theorem dX8_climbToRoot_0 : decode cX8_climbToRoot 0 = .ok (.iconst 1, 1) := by decide +kernel
theorem dX8_climbToRoot_1 : decode cX8_climbToRoot 1 = .ok (.istore_n 1, 1) := by decide +kernel
theorem dX8_climbToRoot_2 : decode cX8_climbToRoot 2 = .ok (.iload_n 1, 1) := by decide +kernel
theorem dX8_climbToRoot_3 : decode cX8_climbToRoot 3 = .ok (.aload_n 0, 1) := by decide +kernel
theorem dX8_climbToRoot_4 : decode cX8_climbToRoot 4 = .ok (.getfield 10, 3) := by decide +kernel
theorem dX8_climbToRoot_7 : decode cX8_climbToRoot 7 = .ok (.getfield 115, 3) := by decide +kernel
theorem dX8_climbToRoot_10 : decode cX8_climbToRoot 10 = .ok (.if_icmp .gt 142, 3) := by decide +kernel
theorem dX8_climbToRoot_13 : decode cX8_climbToRoot 13 = .ok (.aload_n 0, 1) := by decide +kernel
theorem dX8_climbToRoot_14 : decode cX8_climbToRoot 14 = .ok (.getfield 19, 3) := by decide +kernel
theorem dX8_climbToRoot_17 : decode cX8_climbToRoot 17 = .ok (.getfield 207, 3) := by decide +kernel
theorem dX8_climbToRoot_20 : decode cX8_climbToRoot 20 = .ok (.lstore_n 2, 1) := by decide +kernel
theorem dX8_climbToRoot_21 : decode cX8_climbToRoot 21 = .ok (.aload_n 0, 1) := by decide +kernel
theorem dX8_climbToRoot_22 : decode cX8_climbToRoot 22 = .ok (.getfield 19, 3) := by decide +kernel
theorem dX8_climbToRoot_25 : decode cX8_climbToRoot 25 = .ok (.getfield 210, 3) := by decide +kernel
theorem dX8_climbToRoot_28 : decode cX8_climbToRoot 28 = .ok (.lstore 4, 2) := by decide +kernel
theorem dX8_climbToRoot_30 : decode cX8_climbToRoot 30 = .ok (.aload_n 0, 1) := by decide +kernel
theorem dX8_climbToRoot_31 : decode cX8_climbToRoot 31 = .ok (.getfield 54, 3) := by decide +kernel
theorem dX8_climbToRoot_34 : decode cX8_climbToRoot 34 = .ok (.getfield 176, 3) := by decide +kernel
theorem dX8_climbToRoot_37 : decode cX8_climbToRoot 37 = .ok (.iload_n 1, 1) := by decide +kernel
theorem dX8_climbToRoot_38 : decode cX8_climbToRoot 38 = .ok (.iconst 1, 1) := by decide +kernel
theorem dX8_climbToRoot_39 : decode cX8_climbToRoot 39 = .ok (.isub, 1) := by decide +kernel
theorem dX8_climbToRoot_40 : decode cX8_climbToRoot 40 = .ok (.ishr, 1) := by decide +kernel
theorem dX8_climbToRoot_41 : decode cX8_climbToRoot 41 = .ok (.istore 6, 2) := by decide +kernel
theorem dX8_climbToRoot_43 : decode cX8_climbToRoot 43 = .ok (.bipush 35, 2) := by decide +kernel
theorem dX8_climbToRoot_45 : decode cX8_climbToRoot 45 = .ok (.iload_n 1, 1) := by decide +kernel
theorem dX8_climbToRoot_46 : decode cX8_climbToRoot 46 = .ok (.iadd, 1) := by decide +kernel
theorem dX8_climbToRoot_47 : decode cX8_climbToRoot 47 = .ok (.iconst 1, 1) := by decide +kernel
theorem dX8_climbToRoot_48 : decode cX8_climbToRoot 48 = .ok (.isub, 1) := by decide +kernel
theorem dX8_climbToRoot_49 : decode cX8_climbToRoot 49 = .ok (.istore 7, 2) := by decide +kernel
theorem dX8_climbToRoot_51 : decode cX8_climbToRoot 51 = .ok (.aload_n 0, 1) := by decide +kernel
theorem dX8_climbToRoot_52 : decode cX8_climbToRoot 52 = .ok (.getfield 19, 3) := by decide +kernel
theorem dX8_climbToRoot_55 : decode cX8_climbToRoot 55 = .ok (.aload_n 0, 1) := by decide +kernel
theorem dX8_climbToRoot_56 : decode cX8_climbToRoot 56 = .ok (.getfield 10, 3) := by decide +kernel
theorem dX8_climbToRoot_59 : decode cX8_climbToRoot 59 = .ok (.getfield 96, 3) := by decide +kernel
theorem dX8_climbToRoot_62 : decode cX8_climbToRoot 62 = .ok (.iload_n 1, 1) := by decide +kernel
theorem dX8_climbToRoot_63 : decode cX8_climbToRoot 63 = .ok (.iload 6, 2) := by decide +kernel
theorem dX8_climbToRoot_65 : decode cX8_climbToRoot 65 = .ok (.iconst 1, 1) := by decide +kernel
theorem dX8_climbToRoot_66 : decode cX8_climbToRoot 66 = .ok (.ishr, 1) := by decide +kernel
theorem dX8_climbToRoot_67 : decode cX8_climbToRoot 67 = .ok (.invokevirtual 229, 3) := by decide +kernel
theorem dX8_climbToRoot_70 : decode cX8_climbToRoot 70 = .ok (.iload 6, 2) := by decide +kernel
theorem dX8_climbToRoot_72 : decode cX8_climbToRoot 72 = .ok (.iconst 1, 1) := by decide +kernel
theorem dX8_climbToRoot_73 : decode cX8_climbToRoot 73 = .ok (.iand, 1) := by decide +kernel
theorem dX8_climbToRoot_74 : decode cX8_climbToRoot 74 = .ok (.ifCond .ne 39, 3) := by decide +kernel
theorem dX8_climbToRoot_77 : decode cX8_climbToRoot 77 = .ok (.aload_n 0, 1) := by decide +kernel
theorem dX8_climbToRoot_78 : decode cX8_climbToRoot 78 = .ok (.getfield 19, 3) := by decide +kernel
theorem dX8_climbToRoot_81 : decode cX8_climbToRoot 81 = .ok (.lload_n 2, 1) := by decide +kernel
theorem dX8_climbToRoot_82 : decode cX8_climbToRoot 82 = .ok (.invokevirtual 218, 3) := by decide +kernel
theorem dX8_climbToRoot_85 : decode cX8_climbToRoot 85 = .ok (.aload_n 0, 1) := by decide +kernel
theorem dX8_climbToRoot_86 : decode cX8_climbToRoot 86 = .ok (.getfield 19, 3) := by decide +kernel
theorem dX8_climbToRoot_89 : decode cX8_climbToRoot 89 = .ok (.lload 4, 2) := by decide +kernel
theorem dX8_climbToRoot_91 : decode cX8_climbToRoot 91 = .ok (.invokevirtual 218, 3) := by decide +kernel
theorem dX8_climbToRoot_94 : decode cX8_climbToRoot 94 = .ok (.aload_n 0, 1) := by decide +kernel
theorem dX8_climbToRoot_95 : decode cX8_climbToRoot 95 = .ok (.getfield 19, 3) := by decide +kernel
theorem dX8_climbToRoot_98 : decode cX8_climbToRoot 98 = .ok (.aload_n 0, 1) := by decide +kernel
theorem dX8_climbToRoot_99 : decode cX8_climbToRoot 99 = .ok (.getfield 54, 3) := by decide +kernel
theorem dX8_climbToRoot_102 : decode cX8_climbToRoot 102 = .ok (.getfield 162, 3) := by decide +kernel
theorem dX8_climbToRoot_105 : decode cX8_climbToRoot 105 = .ok (.iload 7, 2) := by decide +kernel
theorem dX8_climbToRoot_107 : decode cX8_climbToRoot 107 = .ok (.invokevirtual 221, 3) := by decide +kernel
theorem dX8_climbToRoot_110 : decode cX8_climbToRoot 110 = .ok (.goto 36, 3) := by decide +kernel
theorem dX8_climbToRoot_113 : decode cX8_climbToRoot 113 = .ok (.aload_n 0, 1) := by decide +kernel
theorem dX8_climbToRoot_114 : decode cX8_climbToRoot 114 = .ok (.getfield 19, 3) := by decide +kernel
theorem dX8_climbToRoot_117 : decode cX8_climbToRoot 117 = .ok (.aload_n 0, 1) := by decide +kernel
theorem dX8_climbToRoot_118 : decode cX8_climbToRoot 118 = .ok (.getfield 54, 3) := by decide +kernel
theorem dX8_climbToRoot_121 : decode cX8_climbToRoot 121 = .ok (.getfield 162, 3) := by decide +kernel
theorem dX8_climbToRoot_124 : decode cX8_climbToRoot 124 = .ok (.iload 7, 2) := by decide +kernel
theorem dX8_climbToRoot_126 : decode cX8_climbToRoot 126 = .ok (.invokevirtual 221, 3) := by decide +kernel
theorem dX8_climbToRoot_129 : decode cX8_climbToRoot 129 = .ok (.aload_n 0, 1) := by decide +kernel
theorem dX8_climbToRoot_130 : decode cX8_climbToRoot 130 = .ok (.getfield 19, 3) := by decide +kernel
theorem dX8_climbToRoot_133 : decode cX8_climbToRoot 133 = .ok (.lload_n 2, 1) := by decide +kernel
theorem dX8_climbToRoot_134 : decode cX8_climbToRoot 134 = .ok (.invokevirtual 218, 3) := by decide +kernel
theorem dX8_climbToRoot_137 : decode cX8_climbToRoot 137 = .ok (.aload_n 0, 1) := by decide +kernel
theorem dX8_climbToRoot_138 : decode cX8_climbToRoot 138 = .ok (.getfield 19, 3) := by decide +kernel
theorem dX8_climbToRoot_141 : decode cX8_climbToRoot 141 = .ok (.lload 4, 2) := by decide +kernel
theorem dX8_climbToRoot_143 : decode cX8_climbToRoot 143 = .ok (.invokevirtual 218, 3) := by decide +kernel
theorem dX8_climbToRoot_146 : decode cX8_climbToRoot 146 = .ok (.iinc 1 1, 3) := by decide +kernel
theorem dX8_climbToRoot_149 : decode cX8_climbToRoot 149 = .ok (.goto (-147), 3) := by decide +kernel
theorem dX8_climbToRoot_152 : decode cX8_climbToRoot 152 = .ok (.return_, 1) := by decide +kernel
end
section
theorem dX9_init_0 : decode cX9_init 0 = .ok (.aload_n 0, 1) := by decide +kernel
theorem dX9_init_1 : decode cX9_init 1 = .ok (.invokespecial 1, 3) := by decide +kernel
theorem dX9_init_4 : decode cX9_init 4 = .ok (.aload_n 0, 1) := by decide +kernel
theorem dX9_init_5 : decode cX9_init 5 = .ok (.iconst 1, 1) := by decide +kernel
theorem dX9_init_6 : decode cX9_init 6 = .ok (.putfield 7, 3) := by decide +kernel
theorem dX9_init_9 : decode cX9_init 9 = .ok (.aload_n 0, 1) := by decide +kernel
theorem dX9_init_10 : decode cX9_init 10 = .ok (.bipush 31, 2) := by decide +kernel
theorem dX9_init_12 : decode cX9_init 12 = .ok (.newarray .long, 2) := by decide +kernel
theorem dX9_init_14 : decode cX9_init 14 = .ok (.putfield 13, 3) := by decide +kernel
theorem dX9_init_17 : decode cX9_init 17 = .ok (.aload_n 0, 1) := by decide +kernel
theorem dX9_init_18 : decode cX9_init 18 = .ok (.bipush 31, 2) := by decide +kernel
theorem dX9_init_20 : decode cX9_init 20 = .ok (.newarray .long, 2) := by decide +kernel
theorem dX9_init_22 : decode cX9_init 22 = .ok (.putfield 17, 3) := by decide +kernel
theorem dX9_init_25 : decode cX9_init 25 = .ok (.aload_n 0, 1) := by decide +kernel
theorem dX9_init_26 : decode cX9_init 26 = .ok (.bipush 20, 2) := by decide +kernel
theorem dX9_init_28 : decode cX9_init 28 = .ok (.newarray .long, 2) := by decide +kernel
theorem dX9_init_30 : decode cX9_init 30 = .ok (.putfield 20, 3) := by decide +kernel
theorem dX9_init_33 : decode cX9_init 33 = .ok (.aload_n 0, 1) := by decide +kernel
theorem dX9_init_34 : decode cX9_init 34 = .ok (.bipush 39, 2) := by decide +kernel
theorem dX9_init_36 : decode cX9_init 36 = .ok (.newarray .long, 2) := by decide +kernel
theorem dX9_init_38 : decode cX9_init 38 = .ok (.putfield 23, 3) := by decide +kernel
theorem dX9_init_41 : decode cX9_init 41 = .ok (.aload_n 0, 1) := by decide +kernel
theorem dX9_init_42 : decode cX9_init 42 = .ok (.bipush 39, 2) := by decide +kernel
theorem dX9_init_44 : decode cX9_init 44 = .ok (.newarray .long, 2) := by decide +kernel
theorem dX9_init_46 : decode cX9_init 46 = .ok (.putfield 26, 3) := by decide +kernel
theorem dX9_init_49 : decode cX9_init 49 = .ok (.aload_n 0, 1) := by decide +kernel
theorem dX9_init_50 : decode cX9_init 50 = .ok (.bipush 35, 2) := by decide +kernel
theorem dX9_init_52 : decode cX9_init 52 = .ok (.newarray .long, 2) := by decide +kernel
theorem dX9_init_54 : decode cX9_init 54 = .ok (.putfield 29, 3) := by decide +kernel
theorem dX9_init_57 : decode cX9_init 57 = .ok (.aload_n 0, 1) := by decide +kernel
theorem dX9_init_58 : decode cX9_init 58 = .ok (.bipush 35, 2) := by decide +kernel
theorem dX9_init_60 : decode cX9_init 60 = .ok (.newarray .long, 2) := by decide +kernel
theorem dX9_init_62 : decode cX9_init 62 = .ok (.putfield 32, 3) := by decide +kernel
theorem dX9_init_65 : decode cX9_init 65 = .ok (.aload_n 0, 1) := by decide +kernel
theorem dX9_init_66 : decode cX9_init 66 = .ok (.bipush 35, 2) := by decide +kernel
theorem dX9_init_68 : decode cX9_init 68 = .ok (.newarray .int, 2) := by decide +kernel
theorem dX9_init_70 : decode cX9_init 70 = .ok (.putfield 35, 3) := by decide +kernel
theorem dX9_init_73 : decode cX9_init 73 = .ok (.return_, 1) := by decide +kernel
theorem dX9_mixed_0 : decode cX9_mixed 0 = .ok (.lload_n 0, 1) := by decide +kernel
theorem dX9_mixed_1 : decode cX9_mixed 1 = .ok (.lload_n 0, 1) := by decide +kernel
theorem dX9_mixed_2 : decode cX9_mixed 2 = .ok (.bipush 30, 2) := by decide +kernel
theorem dX9_mixed_4 : decode cX9_mixed 4 = .ok (.lushr, 1) := by decide +kernel
theorem dX9_mixed_5 : decode cX9_mixed 5 = .ok (.lxor, 1) := by decide +kernel
theorem dX9_mixed_6 : decode cX9_mixed 6 = .ok (.ldc2_w 39, 3) := by decide +kernel
theorem dX9_mixed_9 : decode cX9_mixed 9 = .ok (.lmul, 1) := by decide +kernel
theorem dX9_mixed_10 : decode cX9_mixed 10 = .ok (.lstore_n 2, 1) := by decide +kernel
theorem dX9_mixed_11 : decode cX9_mixed 11 = .ok (.lload_n 2, 1) := by decide +kernel
theorem dX9_mixed_12 : decode cX9_mixed 12 = .ok (.lload_n 2, 1) := by decide +kernel
theorem dX9_mixed_13 : decode cX9_mixed 13 = .ok (.bipush 27, 2) := by decide +kernel
theorem dX9_mixed_15 : decode cX9_mixed 15 = .ok (.lushr, 1) := by decide +kernel
theorem dX9_mixed_16 : decode cX9_mixed 16 = .ok (.lxor, 1) := by decide +kernel
theorem dX9_mixed_17 : decode cX9_mixed 17 = .ok (.ldc2_w 41, 3) := by decide +kernel
theorem dX9_mixed_20 : decode cX9_mixed 20 = .ok (.lmul, 1) := by decide +kernel
theorem dX9_mixed_21 : decode cX9_mixed 21 = .ok (.lstore_n 2, 1) := by decide +kernel
theorem dX9_mixed_22 : decode cX9_mixed 22 = .ok (.lload_n 2, 1) := by decide +kernel
theorem dX9_mixed_23 : decode cX9_mixed 23 = .ok (.lload_n 2, 1) := by decide +kernel
theorem dX9_mixed_24 : decode cX9_mixed 24 = .ok (.bipush 31, 2) := by decide +kernel
theorem dX9_mixed_26 : decode cX9_mixed 26 = .ok (.lushr, 1) := by decide +kernel
theorem dX9_mixed_27 : decode cX9_mixed 27 = .ok (.lxor, 1) := by decide +kernel
theorem dX9_mixed_28 : decode cX9_mixed 28 = .ok (.lreturn, 1) := by decide +kernel
theorem dX9_take_0 : decode cX9_take 0 = .ok (.aload_n 0, 1) := by decide +kernel
theorem dX9_take_1 : decode cX9_take 1 = .ok (.lload_n 1, 1) := by decide +kernel
theorem dX9_take_2 : decode cX9_take 2 = .ok (.putfield 43, 3) := by decide +kernel
theorem dX9_take_5 : decode cX9_take 5 = .ok (.aload_n 0, 1) := by decide +kernel
theorem dX9_take_6 : decode cX9_take 6 = .ok (.iload_n 3, 1) := by decide +kernel
theorem dX9_take_7 : decode cX9_take 7 = .ok (.i2l, 1) := by decide +kernel
theorem dX9_take_8 : decode cX9_take 8 = .ok (.putfield 47, 3) := by decide +kernel
theorem dX9_take_11 : decode cX9_take 11 = .ok (.return_, 1) := by decide +kernel
set_option maxRecDepth 20000 in
theorem ggX9_put_X9_mixed : GoodIn wsX9_put wsX9_mixed := goodIn_r _ [6, 7, 8] (by decide +kernel) (by decide +kernel)
set_option maxRecDepth 20000 in
theorem gX9_put_X9_mixed : GoodIn wsX9_put (va_wsS RX9 50 yX9_mixed wsX9_mixed) := goodIn_app (goodIn_of _ (by decide +kernel)) ggX9_put_X9_mixed
theorem dX9_put_0 : decode cX9_put 0 = .ok (.aload_n 0, 1) := by decide +kernel
theorem dX9_put_1 : decode cX9_put 1 = .ok (.aload_n 0, 1) := by decide +kernel
theorem dX9_put_2 : decode cX9_put 2 = .ok (.getfield 43, 3) := by decide +kernel
theorem dX9_put_5 : decode cX9_put 5 = .ok (.lload_n 1, 1) := by decide +kernel
theorem dX9_put_6 : decode cX9_put 6 = .ok (.lxor, 1) := by decide +kernel
theorem dX9_put_7 : decode cX9_put 7 = .ok (.invokestatic 50, 3) := by decide +kernel
theorem dX9_put_10 : decode cX9_put 10 = .ok (.putfield 43, 3) := by decide +kernel
theorem dX9_put_13 : decode cX9_put 13 = .ok (.aload_n 0, 1) := by decide +kernel
theorem dX9_put_14 : decode cX9_put 14 = .ok (.aload_n 0, 1) := by decide +kernel
theorem dX9_put_15 : decode cX9_put 15 = .ok (.getfield 47, 3) := by decide +kernel
theorem dX9_put_18 : decode cX9_put 18 = .ok (.aload_n 0, 1) := by decide +kernel
theorem dX9_put_19 : decode cX9_put 19 = .ok (.getfield 43, 3) := by decide +kernel
theorem dX9_put_22 : decode cX9_put 22 = .ok (.ladd, 1) := by decide +kernel
theorem dX9_put_23 : decode cX9_put 23 = .ok (.invokestatic 50, 3) := by decide +kernel
theorem dX9_put_26 : decode cX9_put 26 = .ok (.putfield 47, 3) := by decide +kernel
theorem dX9_put_29 : decode cX9_put 29 = .ok (.return_, 1) := by decide +kernel
set_option maxRecDepth 20000 in
theorem ggX9_carry_X9_take : GoodIn wsX9_carry wsX9_take := goodIn_r _ [9, 1, 2, 19, 20, 21, 22, 23, 24, 25, 26, 27, 28, 29, 30, 31, 32, 33, 34, 35, 36, 37, 38, 39] (by decide +kernel) (by decide +kernel)
set_option maxRecDepth 20000 in
theorem gX9_carry_X9_take : GoodIn wsX9_carry (wsV RX9 56 RX9 yX9_take wsX9_take) := goodIn_app (goodIn_of _ (by decide +kernel)) ggX9_carry_X9_take
set_option maxRecDepth 20000 in
theorem ggX9_carry_X9_put : GoodIn wsX9_carry wsX9_put := goodIn_r _ [13, 1, 2, 14, 15, 8, 16, 17, 18, 19, 20, 21, 22, 23, 24, 25, 26, 27, 28, 29, 30, 31, 32, 33, 34, 35, 36, 37, 38, 39] (by decide +kernel) (by decide +kernel)
set_option maxRecDepth 20000 in
theorem gX9_carry_X9_put : GoodIn wsX9_carry (wsV RX9 63 RX9 yX9_put wsX9_put) := goodIn_app (goodIn_of _ (by decide +kernel)) ggX9_carry_X9_put
theorem dX9_carry_0 : decode cX9_carry 0 = .ok (.iload_n 3, 1) := by decide +kernel
theorem dX9_carry_1 : decode cX9_carry 1 = .ok (.istore 5, 2) := by decide +kernel
theorem dX9_carry_3 : decode cX9_carry 3 = .ok (.iload 5, 2) := by decide +kernel
theorem dX9_carry_5 : decode cX9_carry 5 = .ok (.iload 4, 2) := by decide +kernel
theorem dX9_carry_7 : decode cX9_carry 7 = .ok (.if_icmp .ge 69, 3) := by decide +kernel
theorem dX9_carry_10 : decode cX9_carry 10 = .ok (.aload_n 0, 1) := by decide +kernel
theorem dX9_carry_11 : decode cX9_carry 11 = .ok (.getfield 43, 3) := by decide +kernel
theorem dX9_carry_14 : decode cX9_carry 14 = .ok (.lstore 6, 2) := by decide +kernel
theorem dX9_carry_16 : decode cX9_carry 16 = .ok (.aload_n 0, 1) := by decide +kernel
theorem dX9_carry_17 : decode cX9_carry 17 = .ok (.getfield 47, 3) := by decide +kernel
theorem dX9_carry_20 : decode cX9_carry 20 = .ok (.lstore 8, 2) := by decide +kernel
theorem dX9_carry_22 : decode cX9_carry 22 = .ok (.aload_n 0, 1) := by decide +kernel
theorem dX9_carry_23 : decode cX9_carry 23 = .ok (.ldc2_w 54, 3) := by decide +kernel
theorem dX9_carry_26 : decode cX9_carry 26 = .ok (.bipush 6, 2) := by decide +kernel
theorem dX9_carry_28 : decode cX9_carry 28 = .ok (.invokevirtual 56, 3) := by decide +kernel
theorem dX9_carry_31 : decode cX9_carry 31 = .ok (.aload_n 0, 1) := by decide +kernel
theorem dX9_carry_32 : decode cX9_carry 32 = .ok (.aload_n 0, 1) := by decide +kernel
theorem dX9_carry_33 : decode cX9_carry 33 = .ok (.getfield 60, 3) := by decide +kernel
theorem dX9_carry_36 : decode cX9_carry 36 = .ok (.invokevirtual 63, 3) := by decide +kernel
theorem dX9_carry_39 : decode cX9_carry 39 = .ok (.aload_n 0, 1) := by decide +kernel
theorem dX9_carry_40 : decode cX9_carry 40 = .ok (.iload_n 1, 1) := by decide +kernel
theorem dX9_carry_41 : decode cX9_carry 41 = .ok (.i2l, 1) := by decide +kernel
theorem dX9_carry_42 : decode cX9_carry 42 = .ok (.invokevirtual 63, 3) := by decide +kernel
theorem dX9_carry_45 : decode cX9_carry 45 = .ok (.aload_n 0, 1) := by decide +kernel
theorem dX9_carry_46 : decode cX9_carry 46 = .ok (.iload_n 2, 1) := by decide +kernel
theorem dX9_carry_47 : decode cX9_carry 47 = .ok (.i2l, 1) := by decide +kernel
theorem dX9_carry_48 : decode cX9_carry 48 = .ok (.invokevirtual 63, 3) := by decide +kernel
theorem dX9_carry_51 : decode cX9_carry 51 = .ok (.aload_n 0, 1) := by decide +kernel
theorem dX9_carry_52 : decode cX9_carry 52 = .ok (.iload 5, 2) := by decide +kernel
theorem dX9_carry_54 : decode cX9_carry 54 = .ok (.i2l, 1) := by decide +kernel
theorem dX9_carry_55 : decode cX9_carry 55 = .ok (.invokevirtual 63, 3) := by decide +kernel
theorem dX9_carry_58 : decode cX9_carry 58 = .ok (.aload_n 0, 1) := by decide +kernel
theorem dX9_carry_59 : decode cX9_carry 59 = .ok (.lload 6, 2) := by decide +kernel
theorem dX9_carry_61 : decode cX9_carry 61 = .ok (.invokevirtual 63, 3) := by decide +kernel
theorem dX9_carry_64 : decode cX9_carry 64 = .ok (.aload_n 0, 1) := by decide +kernel
theorem dX9_carry_65 : decode cX9_carry 65 = .ok (.lload 8, 2) := by decide +kernel
theorem dX9_carry_67 : decode cX9_carry 67 = .ok (.invokevirtual 63, 3) := by decide +kernel
theorem dX9_carry_70 : decode cX9_carry 70 = .ok (.iinc 5 1, 3) := by decide +kernel
theorem dX9_carry_73 : decode cX9_carry 73 = .ok (.goto (-70), 3) := by decide +kernel
theorem dX9_carry_76 : decode cX9_carry 76 = .ok (.return_, 1) := by decide +kernel
set_option maxRecDepth 20000 in
theorem ggX9_place_X9_take : GoodIn wsX9_place wsX9_take := goodIn_r _ [7, 8, 9, 25, 26, 27, 28, 29, 30, 31, 32, 33, 34, 35, 36, 37, 38, 39, 40, 41, 42, 43, 44, 45] (by decide +kernel) (by decide +kernel)
set_option maxRecDepth 20000 in
theorem gX9_place_X9_take : GoodIn wsX9_place (wsV RX9 56 RX9 yX9_take wsX9_take) := goodIn_app (goodIn_of _ (by decide +kernel)) ggX9_place_X9_take
set_option maxRecDepth 20000 in
theorem ggX9_place_X9_put : GoodIn wsX9_place wsX9_put := goodIn_r _ [13, 8, 9, 14, 15, 6, 16, 17, 18, 25, 26, 27, 28, 29, 30, 31, 32, 33, 34, 35, 36, 37, 38, 39, 40, 41, 42, 43, 44, 45] (by decide +kernel) (by decide +kernel)
set_option maxRecDepth 20000 in
theorem gX9_place_X9_put : GoodIn wsX9_place (wsV RX9 63 RX9 yX9_put wsX9_put) := goodIn_app (goodIn_of _ (by decide +kernel)) ggX9_place_X9_put
set_option maxRecDepth 20000 in
theorem ggX9_place_X9_carry : GoodIn wsX9_place wsX9_carry := goodIn_r _ [22, 8, 9, 23, 24, 3, 4, 5, 6, 7, 10, 11, 12, 13, 14, 15, 16, 17, 18, 25, 26, 27, 28, 29, 30, 31, 32, 33, 34, 35, 36, 37, 38, 39, 40, 41, 42, 43, 44, 45] (by decide +kernel) (by decide +kernel)
set_option maxRecDepth 20000 in
theorem gX9_place_X9_carry : GoodIn wsX9_place (wsV RX9 73 RX9 yX9_carry wsX9_carry) := goodIn_app (goodIn_of _ (by decide +kernel)) ggX9_place_X9_carry
theorem dX9_place_0 : decode cX9_place 0 = .ok (.aload_n 0, 1) := by decide +kernel
theorem dX9_place_1 : decode cX9_place 1 = .ok (.lconst 1, 1) := by decide +kernel
theorem dX9_place_2 : decode cX9_place 2 = .ok (.iconst 4, 1) := by decide +kernel
theorem dX9_place_3 : decode cX9_place 3 = .ok (.invokevirtual 56, 3) := by decide +kernel
theorem dX9_place_6 : decode cX9_place 6 = .ok (.aload_n 0, 1) := by decide +kernel
theorem dX9_place_7 : decode cX9_place 7 = .ok (.aload_n 0, 1) := by decide +kernel
theorem dX9_place_8 : decode cX9_place 8 = .ok (.getfield 67, 3) := by decide +kernel
theorem dX9_place_11 : decode cX9_place 11 = .ok (.invokevirtual 63, 3) := by decide +kernel
theorem dX9_place_14 : decode cX9_place 14 = .ok (.aload_n 0, 1) := by decide +kernel
theorem dX9_place_15 : decode cX9_place 15 = .ok (.aload_n 0, 1) := by decide +kernel
theorem dX9_place_16 : decode cX9_place 16 = .ok (.getfield 70, 3) := by decide +kernel
theorem dX9_place_19 : decode cX9_place 19 = .ok (.invokevirtual 63, 3) := by decide +kernel
theorem dX9_place_22 : decode cX9_place 22 = .ok (.aload_n 0, 1) := by decide +kernel
theorem dX9_place_23 : decode cX9_place 23 = .ok (.iload_n 1, 1) := by decide +kernel
theorem dX9_place_24 : decode cX9_place 24 = .ok (.i2l, 1) := by decide +kernel
theorem dX9_place_25 : decode cX9_place 25 = .ok (.invokevirtual 63, 3) := by decide +kernel
theorem dX9_place_28 : decode cX9_place 28 = .ok (.aload_n 0, 1) := by decide +kernel
theorem dX9_place_29 : decode cX9_place 29 = .ok (.iload_n 2, 1) := by decide +kernel
theorem dX9_place_30 : decode cX9_place 30 = .ok (.i2l, 1) := by decide +kernel
theorem dX9_place_31 : decode cX9_place 31 = .ok (.invokevirtual 63, 3) := by decide +kernel
theorem dX9_place_34 : decode cX9_place 34 = .ok (.aload_n 0, 1) := by decide +kernel
theorem dX9_place_35 : decode cX9_place 35 = .ok (.iload_n 1, 1) := by decide +kernel
theorem dX9_place_36 : decode cX9_place 36 = .ok (.iload_n 2, 1) := by decide +kernel
theorem dX9_place_37 : decode cX9_place 37 = .ok (.iconst 0, 1) := by decide +kernel
theorem dX9_place_38 : decode cX9_place 38 = .ok (.iload_n 3, 1) := by decide +kernel
theorem dX9_place_39 : decode cX9_place 39 = .ok (.invokevirtual 73, 3) := by decide +kernel
theorem dX9_place_42 : decode cX9_place 42 = .ok (.return_, 1) := by decide +kernel
set_option maxRecDepth 20000 in
theorem ggX9_gather_X9_take : GoodIn wsX9_gather wsX9_take := goodIn_r _ [9, 10, 11, 21, 22, 23, 24, 25, 26, 27, 28, 29, 30, 31, 32, 33, 34, 35, 36, 37, 38, 39, 40, 41] (by decide +kernel) (by decide +kernel)
set_option maxRecDepth 20000 in
theorem gX9_gather_X9_take : GoodIn wsX9_gather (wsV RX9 56 RX9 yX9_take wsX9_take) := goodIn_app (goodIn_of _ (by decide +kernel)) ggX9_gather_X9_take
set_option maxRecDepth 20000 in
theorem ggX9_gather_X9_put : GoodIn wsX9_gather wsX9_put := goodIn_r _ [15, 10, 11, 16, 17, 8, 18, 19, 20, 21, 22, 23, 24, 25, 26, 27, 28, 29, 30, 31, 32, 33, 34, 35, 36, 37, 38, 39, 40, 41] (by decide +kernel) (by decide +kernel)
set_option maxRecDepth 20000 in
theorem gX9_gather_X9_put : GoodIn wsX9_gather (wsV RX9 63 RX9 yX9_put wsX9_put) := goodIn_app (goodIn_of _ (by decide +kernel)) ggX9_gather_X9_put
theorem dX9_gather_0 : decode cX9_gather 0 = .ok (.aload_n 0, 1) := by decide +kernel
theorem dX9_gather_1 : decode cX9_gather 1 = .ok (.ldc2_w 77, 3) := by decide +kernel
theorem dX9_gather_4 : decode cX9_gather 4 = .ok (.bipush 72, 2) := by decide +kernel
theorem dX9_gather_6 : decode cX9_gather 6 = .ok (.invokevirtual 56, 3) := by decide +kernel
theorem dX9_gather_9 : decode cX9_gather 9 = .ok (.aload_n 0, 1) := by decide +kernel
theorem dX9_gather_10 : decode cX9_gather 10 = .ok (.aload_n 0, 1) := by decide +kernel
theorem dX9_gather_11 : decode cX9_gather 11 = .ok (.getfield 60, 3) := by decide +kernel
theorem dX9_gather_14 : decode cX9_gather 14 = .ok (.invokevirtual 63, 3) := by decide +kernel
theorem dX9_gather_17 : decode cX9_gather 17 = .ok (.aload_n 0, 1) := by decide +kernel
theorem dX9_gather_18 : decode cX9_gather 18 = .ok (.iload_n 1, 1) := by decide +kernel
theorem dX9_gather_19 : decode cX9_gather 19 = .ok (.i2l, 1) := by decide +kernel
theorem dX9_gather_20 : decode cX9_gather 20 = .ok (.invokevirtual 63, 3) := by decide +kernel
theorem dX9_gather_23 : decode cX9_gather 23 = .ok (.iconst 0, 1) := by decide +kernel
theorem dX9_gather_24 : decode cX9_gather 24 = .ok (.istore_n 2, 1) := by decide +kernel
theorem dX9_gather_25 : decode cX9_gather 25 = .ok (.iload_n 2, 1) := by decide +kernel
theorem dX9_gather_26 : decode cX9_gather 26 = .ok (.bipush 35, 2) := by decide +kernel
theorem dX9_gather_28 : decode cX9_gather 28 = .ok (.if_icmp .ge 29, 3) := by decide +kernel
theorem dX9_gather_31 : decode cX9_gather 31 = .ok (.aload_n 0, 1) := by decide +kernel
theorem dX9_gather_32 : decode cX9_gather 32 = .ok (.aload_n 0, 1) := by decide +kernel
theorem dX9_gather_33 : decode cX9_gather 33 = .ok (.getfield 29, 3) := by decide +kernel
theorem dX9_gather_36 : decode cX9_gather 36 = .ok (.iload_n 2, 1) := by decide +kernel
theorem dX9_gather_37 : decode cX9_gather 37 = .ok (.laload, 1) := by decide +kernel
theorem dX9_gather_38 : decode cX9_gather 38 = .ok (.invokevirtual 63, 3) := by decide +kernel
theorem dX9_gather_41 : decode cX9_gather 41 = .ok (.aload_n 0, 1) := by decide +kernel
theorem dX9_gather_42 : decode cX9_gather 42 = .ok (.aload_n 0, 1) := by decide +kernel
theorem dX9_gather_43 : decode cX9_gather 43 = .ok (.getfield 32, 3) := by decide +kernel
theorem dX9_gather_46 : decode cX9_gather 46 = .ok (.iload_n 2, 1) := by decide +kernel
theorem dX9_gather_47 : decode cX9_gather 47 = .ok (.laload, 1) := by decide +kernel
theorem dX9_gather_48 : decode cX9_gather 48 = .ok (.invokevirtual 63, 3) := by decide +kernel
theorem dX9_gather_51 : decode cX9_gather 51 = .ok (.iinc 2 1, 3) := by decide +kernel
theorem dX9_gather_54 : decode cX9_gather 54 = .ok (.goto (-29), 3) := by decide +kernel
theorem dX9_gather_57 : decode cX9_gather 57 = .ok (.return_, 1) := by decide +kernel
set_option maxRecDepth 20000 in
theorem ggX9_join_X9_take : GoodIn wsX9_join wsX9_take := goodIn_r _ [7, 8, 9, 19, 20, 21, 22, 23, 24, 25, 26, 27, 28, 29, 30, 31, 32, 33, 34, 35, 36, 37, 38, 39] (by decide +kernel) (by decide +kernel)
set_option maxRecDepth 20000 in
theorem gX9_join_X9_take : GoodIn wsX9_join (wsV RX9 56 RX9 yX9_take wsX9_take) := goodIn_app (goodIn_of _ (by decide +kernel)) ggX9_join_X9_take
set_option maxRecDepth 20000 in
theorem ggX9_join_X9_put : GoodIn wsX9_join wsX9_put := goodIn_r _ [13, 8, 9, 14, 15, 6, 16, 17, 18, 19, 20, 21, 22, 23, 24, 25, 26, 27, 28, 29, 30, 31, 32, 33, 34, 35, 36, 37, 38, 39] (by decide +kernel) (by decide +kernel)
set_option maxRecDepth 20000 in
theorem gX9_join_X9_put : GoodIn wsX9_join (wsV RX9 63 RX9 yX9_put wsX9_put) := goodIn_app (goodIn_of _ (by decide +kernel)) ggX9_join_X9_put
theorem dX9_join_0 : decode cX9_join 0 = .ok (.aload_n 0, 1) := by decide +kernel
theorem dX9_join_1 : decode cX9_join 1 = .ok (.ldc2_w 79, 3) := by decide +kernel
theorem dX9_join_4 : decode cX9_join 4 = .ok (.bipush 7, 2) := by decide +kernel
theorem dX9_join_6 : decode cX9_join 6 = .ok (.invokevirtual 56, 3) := by decide +kernel
theorem dX9_join_9 : decode cX9_join 9 = .ok (.aload_n 0, 1) := by decide +kernel
theorem dX9_join_10 : decode cX9_join 10 = .ok (.aload_n 0, 1) := by decide +kernel
theorem dX9_join_11 : decode cX9_join 11 = .ok (.getfield 60, 3) := by decide +kernel
theorem dX9_join_14 : decode cX9_join 14 = .ok (.invokevirtual 63, 3) := by decide +kernel
theorem dX9_join_17 : decode cX9_join 17 = .ok (.aload_n 0, 1) := by decide +kernel
theorem dX9_join_18 : decode cX9_join 18 = .ok (.iload_n 1, 1) := by decide +kernel
theorem dX9_join_19 : decode cX9_join 19 = .ok (.i2l, 1) := by decide +kernel
theorem dX9_join_20 : decode cX9_join 20 = .ok (.invokevirtual 63, 3) := by decide +kernel
theorem dX9_join_23 : decode cX9_join 23 = .ok (.aload_n 0, 1) := by decide +kernel
theorem dX9_join_24 : decode cX9_join 24 = .ok (.iload_n 2, 1) := by decide +kernel
theorem dX9_join_25 : decode cX9_join 25 = .ok (.i2l, 1) := by decide +kernel
theorem dX9_join_26 : decode cX9_join 26 = .ok (.invokevirtual 63, 3) := by decide +kernel
theorem dX9_join_29 : decode cX9_join 29 = .ok (.aload_n 0, 1) := by decide +kernel
theorem dX9_join_30 : decode cX9_join 30 = .ok (.lload_n 3, 1) := by decide +kernel
theorem dX9_join_31 : decode cX9_join 31 = .ok (.invokevirtual 63, 3) := by decide +kernel
theorem dX9_join_34 : decode cX9_join 34 = .ok (.aload_n 0, 1) := by decide +kernel
theorem dX9_join_35 : decode cX9_join 35 = .ok (.lload 5, 2) := by decide +kernel
theorem dX9_join_37 : decode cX9_join 37 = .ok (.invokevirtual 63, 3) := by decide +kernel
theorem dX9_join_40 : decode cX9_join 40 = .ok (.aload_n 0, 1) := by decide +kernel
theorem dX9_join_41 : decode cX9_join 41 = .ok (.lload 7, 2) := by decide +kernel
theorem dX9_join_43 : decode cX9_join 43 = .ok (.invokevirtual 63, 3) := by decide +kernel
theorem dX9_join_46 : decode cX9_join 46 = .ok (.aload_n 0, 1) := by decide +kernel
theorem dX9_join_47 : decode cX9_join 47 = .ok (.lload 9, 2) := by decide +kernel
theorem dX9_join_49 : decode cX9_join 49 = .ok (.invokevirtual 63, 3) := by decide +kernel
theorem dX9_join_52 : decode cX9_join 52 = .ok (.return_, 1) := by decide +kernel
theorem dX9_at_0 : decode cX9_at 0 = .ok (.bipush 32, 2) := by decide +kernel
theorem dX9_at_2 : decode cX9_at 2 = .ok (.bipush 32, 2) := by decide +kernel
theorem dX9_at_4 : decode cX9_at 4 = .ok (.iload_n 0, 1) := by decide +kernel
theorem dX9_at_5 : decode cX9_at 5 = .ok (.ishr, 1) := by decide +kernel
theorem dX9_at_6 : decode cX9_at 6 = .ok (.isub, 1) := by decide +kernel
theorem dX9_at_7 : decode cX9_at 7 = .ok (.iload_n 1, 1) := by decide +kernel
theorem dX9_at_8 : decode cX9_at 8 = .ok (.iadd, 1) := by decide +kernel
theorem dX9_at_9 : decode cX9_at 9 = .ok (.ireturn, 1) := by decide +kernel
theorem dX9_leaves_0 : decode cX9_leaves 0 = .ok (.iconst 1, 1) := by decide +kernel
theorem dX9_leaves_1 : decode cX9_leaves 1 = .ok (.aload_n 0, 1) := by decide +kernel
theorem dX9_leaves_2 : decode cX9_leaves 2 = .ok (.getfield 7, 3) := by decide +kernel
theorem dX9_leaves_5 : decode cX9_leaves 5 = .ok (.ishl, 1) := by decide +kernel
theorem dX9_leaves_6 : decode cX9_leaves 6 = .ok (.ireturn, 1) := by decide +kernel
set_option maxRecDepth 20000 in
theorem ggX9_isMade_X9_leaves : GoodIn wsX9_isMade wsX9_leaves := goodIn_r _ [7, 1, 8, 9, 10, 11, 12, 13, 14, 15, 16, 17, 18, 19, 20, 21, 22, 23, 24, 25, 26, 27, 28] (by decide +kernel) (by decide +kernel)
set_option maxRecDepth 20000 in
theorem gX9_isMade_X9_leaves : GoodIn wsX9_isMade (wsV RX9 81 RX9 yX9_leaves wsX9_leaves) := goodIn_app (goodIn_of _ (by decide +kernel)) ggX9_isMade_X9_leaves
theorem dX9_isMade_0 : decode cX9_isMade 0 = .ok (.iload_n 1, 1) := by decide +kernel
theorem dX9_isMade_1 : decode cX9_isMade 1 = .ok (.ifCond .lt 41, 3) := by decide +kernel
theorem dX9_isMade_4 : decode cX9_isMade 4 = .ok (.iload_n 1, 1) := by decide +kernel
theorem dX9_isMade_5 : decode cX9_isMade 5 = .ok (.aload_n 0, 1) := by decide +kernel
theorem dX9_isMade_6 : decode cX9_isMade 6 = .ok (.getfield 7, 3) := by decide +kernel
theorem dX9_isMade_9 : decode cX9_isMade 9 = .ok (.if_icmp .gt 33, 3) := by decide +kernel
theorem dX9_isMade_12 : decode cX9_isMade 12 = .ok (.iload_n 2, 1) := by decide +kernel
theorem dX9_isMade_13 : decode cX9_isMade 13 = .ok (.ifCond .lt 29, 3) := by decide +kernel
theorem dX9_isMade_16 : decode cX9_isMade 16 = .ok (.iload_n 2, 1) := by decide +kernel
theorem dX9_isMade_17 : decode cX9_isMade 17 = .ok (.aload_n 0, 1) := by decide +kernel
theorem dX9_isMade_18 : decode cX9_isMade 18 = .ok (.invokevirtual 81, 3) := by decide +kernel
theorem dX9_isMade_21 : decode cX9_isMade 21 = .ok (.iload_n 1, 1) := by decide +kernel
theorem dX9_isMade_22 : decode cX9_isMade 22 = .ok (.ishr, 1) := by decide +kernel
theorem dX9_isMade_23 : decode cX9_isMade 23 = .ok (.if_icmp .ge 19, 3) := by decide +kernel
theorem dX9_isMade_26 : decode cX9_isMade 26 = .ok (.iload_n 2, 1) := by decide +kernel
theorem dX9_isMade_27 : decode cX9_isMade 27 = .ok (.iconst 1, 1) := by decide +kernel
theorem dX9_isMade_28 : decode cX9_isMade 28 = .ok (.iadd, 1) := by decide +kernel
theorem dX9_isMade_29 : decode cX9_isMade 29 = .ok (.iload_n 1, 1) := by decide +kernel
theorem dX9_isMade_30 : decode cX9_isMade 30 = .ok (.ishl, 1) := by decide +kernel
theorem dX9_isMade_31 : decode cX9_isMade 31 = .ok (.aload_n 0, 1) := by decide +kernel
theorem dX9_isMade_32 : decode cX9_isMade 32 = .ok (.getfield 85, 3) := by decide +kernel
theorem dX9_isMade_35 : decode cX9_isMade 35 = .ok (.if_icmp .gt 7, 3) := by decide +kernel
theorem dX9_isMade_38 : decode cX9_isMade 38 = .ok (.iconst 1, 1) := by decide +kernel
theorem dX9_isMade_39 : decode cX9_isMade 39 = .ok (.goto 4, 3) := by decide +kernel
theorem dX9_isMade_42 : decode cX9_isMade 42 = .ok (.iconst 0, 1) := by decide +kernel
theorem dX9_isMade_43 : decode cX9_isMade 43 = .ok (.ireturn, 1) := by decide +kernel
set_option maxRecDepth 20000 in
theorem ggX9_hasRoot_X9_leaves : GoodIn wsX9_hasRoot wsX9_leaves := goodIn_r _ [6, 7, 8, 9, 10, 11, 12, 13, 14, 15, 16, 17, 18, 19, 20, 21, 22, 23, 24, 25, 26, 27, 28] (by decide +kernel) (by decide +kernel)
set_option maxRecDepth 20000 in
theorem gX9_hasRoot_X9_leaves : GoodIn wsX9_hasRoot (wsV RX9 81 RX9 yX9_leaves wsX9_leaves) := goodIn_app (goodIn_of _ (by decide +kernel)) ggX9_hasRoot_X9_leaves
theorem dX9_hasRoot_0 : decode cX9_hasRoot 0 = .ok (.aload_n 0, 1) := by decide +kernel
theorem dX9_hasRoot_1 : decode cX9_hasRoot 1 = .ok (.getfield 85, 3) := by decide +kernel
theorem dX9_hasRoot_4 : decode cX9_hasRoot 4 = .ok (.aload_n 0, 1) := by decide +kernel
theorem dX9_hasRoot_5 : decode cX9_hasRoot 5 = .ok (.invokevirtual 81, 3) := by decide +kernel
theorem dX9_hasRoot_8 : decode cX9_hasRoot 8 = .ok (.if_icmp .ne 7, 3) := by decide +kernel
theorem dX9_hasRoot_11 : decode cX9_hasRoot 11 = .ok (.iconst 1, 1) := by decide +kernel
theorem dX9_hasRoot_12 : decode cX9_hasRoot 12 = .ok (.goto 4, 3) := by decide +kernel
theorem dX9_hasRoot_15 : decode cX9_hasRoot 15 = .ok (.iconst 0, 1) := by decide +kernel
theorem dX9_hasRoot_16 : decode cX9_hasRoot 16 = .ok (.ireturn, 1) := by decide +kernel
theorem dX9_begin_0 : decode cX9_begin 0 = .ok (.iload 7, 2) := by decide +kernel
theorem dX9_begin_2 : decode cX9_begin 2 = .ok (.iconst 1, 1) := by decide +kernel
theorem dX9_begin_3 : decode cX9_begin 3 = .ok (.if_icmp .lt 9, 3) := by decide +kernel
theorem dX9_begin_6 : decode cX9_begin 6 = .ok (.iload 7, 2) := by decide +kernel
theorem dX9_begin_8 : decode cX9_begin 8 = .ok (.iconst 4, 1) := by decide +kernel
theorem dX9_begin_9 : decode cX9_begin 9 = .ok (.if_icmp .le 5, 3) := by decide +kernel
theorem dX9_begin_12 : decode cX9_begin 12 = .ok (.iconst 0, 1) := by decide +kernel
theorem dX9_begin_13 : decode cX9_begin 13 = .ok (.ireturn, 1) := by decide +kernel
theorem dX9_begin_14 : decode cX9_begin 14 = .ok (.aload_n 0, 1) := by decide +kernel
theorem dX9_begin_15 : decode cX9_begin 15 = .ok (.lload_n 1, 1) := by decide +kernel
theorem dX9_begin_16 : decode cX9_begin 16 = .ok (.putfield 67, 3) := by decide +kernel
theorem dX9_begin_19 : decode cX9_begin 19 = .ok (.aload_n 0, 1) := by decide +kernel
theorem dX9_begin_20 : decode cX9_begin 20 = .ok (.lload_n 3, 1) := by decide +kernel
theorem dX9_begin_21 : decode cX9_begin 21 = .ok (.putfield 70, 3) := by decide +kernel
theorem dX9_begin_24 : decode cX9_begin 24 = .ok (.aload_n 0, 1) := by decide +kernel
theorem dX9_begin_25 : decode cX9_begin 25 = .ok (.lload 5, 2) := by decide +kernel
theorem dX9_begin_27 : decode cX9_begin 27 = .ok (.putfield 60, 3) := by decide +kernel
theorem dX9_begin_30 : decode cX9_begin 30 = .ok (.aload_n 0, 1) := by decide +kernel
theorem dX9_begin_31 : decode cX9_begin 31 = .ok (.iload 7, 2) := by decide +kernel
theorem dX9_begin_33 : decode cX9_begin 33 = .ok (.putfield 7, 3) := by decide +kernel
theorem dX9_begin_36 : decode cX9_begin 36 = .ok (.aload_n 0, 1) := by decide +kernel
theorem dX9_begin_37 : decode cX9_begin 37 = .ok (.iconst 0, 1) := by decide +kernel
theorem dX9_begin_38 : decode cX9_begin 38 = .ok (.putfield 85, 3) := by decide +kernel
theorem dX9_begin_41 : decode cX9_begin 41 = .ok (.aload_n 0, 1) := by decide +kernel
theorem dX9_begin_42 : decode cX9_begin 42 = .ok (.iconst 0, 1) := by decide +kernel
theorem dX9_begin_43 : decode cX9_begin 43 = .ok (.putfield 88, 3) := by decide +kernel
theorem dX9_begin_46 : decode cX9_begin 46 = .ok (.aload_n 0, 1) := by decide +kernel
theorem dX9_begin_47 : decode cX9_begin 47 = .ok (.iconst 0, 1) := by decide +kernel
theorem dX9_begin_48 : decode cX9_begin 48 = .ok (.putfield 91, 3) := by decide +kernel
theorem dX9_begin_51 : decode cX9_begin 51 = .ok (.iconst 1, 1) := by decide +kernel
theorem dX9_begin_52 : decode cX9_begin 52 = .ok (.ireturn, 1) := by decide +kernel
set_option maxRecDepth 20000 in
theorem ggX9_grow_X9_leaves : GoodIn wsX9_grow wsX9_leaves := goodIn_r _ [13, 8, 56, 57, 58, 59, 60, 61, 62, 63, 64, 65, 66, 67, 68, 69, 70, 71, 72, 73, 74, 75, 76] (by decide +kernel) (by decide +kernel)
set_option maxRecDepth 20000 in
theorem gX9_grow_X9_leaves : GoodIn wsX9_grow (wsV RX9 81 RX9 yX9_leaves wsX9_leaves) := goodIn_app (goodIn_of _ (by decide +kernel)) ggX9_grow_X9_leaves
set_option maxRecDepth 20000 in
theorem ggX9_grow_X9_place : GoodIn wsX9_grow wsX9_place := goodIn_r _ [17, 18, 19, 20, 21, 22, 12, 23, 3, 5, 24, 25, 26, 27, 28, 29, 30, 31, 32, 33, 34, 35, 36, 37, 38, 56, 57, 58, 59, 60, 61, 62, 63, 64, 65, 66, 67, 68, 69, 70, 71, 72, 73, 74, 75, 76] (by decide +kernel) (by decide +kernel)
set_option maxRecDepth 20000 in
theorem gX9_grow_X9_place : GoodIn wsX9_grow (wsV RX9 95 RX9 yX9_place wsX9_place) := goodIn_app (goodIn_of _ (by decide +kernel)) ggX9_grow_X9_place
set_option maxRecDepth 20000 in
theorem ggX9_grow_X9_gather : GoodIn wsX9_grow wsX9_gather := goodIn_r _ [42, 43, 38, 2, 4, 20, 21, 22, 12, 23, 3, 5, 24, 25, 26, 27, 28, 29, 30, 31, 32, 56, 57, 58, 59, 60, 61, 62, 63, 64, 65, 66, 67, 68, 69, 70, 71, 72, 73, 74, 75, 76] (by decide +kernel) (by decide +kernel)
set_option maxRecDepth 20000 in
theorem gX9_grow_X9_gather : GoodIn wsX9_grow (wsV RX9 99 RX9 yX9_gather wsX9_gather) := goodIn_app (goodIn_of _ (by decide +kernel)) ggX9_grow_X9_gather
set_option maxRecDepth 20000 in
theorem ggX9_grow_X9_isMade : GoodIn wsX9_grow wsX9_isMade := goodIn_r _ [47, 8, 1, 9, 10, 11, 12, 13, 56, 57, 58, 59, 60, 61, 62, 63, 64, 65, 66, 67, 68, 69, 70, 71, 72, 73, 74, 75, 76] (by decide +kernel) (by decide +kernel)
set_option maxRecDepth 20000 in
theorem gX9_grow_X9_isMade : GoodIn wsX9_grow (wsV RX9 103 RX9 yX9_isMade wsX9_isMade) := goodIn_app (goodIn_of _ (by decide +kernel)) ggX9_grow_X9_isMade
set_option maxRecDepth 20000 in
theorem ggX9_grow_X9_at : GoodIn wsX9_grow wsX9_at := goodIn_r _ [50] (by decide +kernel) (by decide +kernel)
set_option maxRecDepth 20000 in
theorem gX9_grow_X9_at : GoodIn wsX9_grow (va_wsS RX9 107 yX9_at wsX9_at) := goodIn_app (goodIn_of _ (by decide +kernel)) ggX9_grow_X9_at
set_option maxRecDepth 20000 in
theorem ggX9_grow_X9_join : GoodIn wsX9_grow wsX9_join := goodIn_r _ [54, 55, 38, 20, 21, 22, 12, 23, 3, 5, 24, 25, 26, 27, 28, 29, 30, 31, 32, 56, 57, 58, 59, 60, 61, 62, 63, 64, 65, 66, 67, 68, 69, 70, 71, 72, 73, 74, 75, 76] (by decide +kernel) (by decide +kernel)
set_option maxRecDepth 20000 in
theorem gX9_grow_X9_join : GoodIn wsX9_grow (wsV RX9 111 RX9 yX9_join wsX9_join) := goodIn_app (goodIn_of _ (by decide +kernel)) ggX9_grow_X9_join
theorem dX9_grow_0 : decode cX9_grow 0 = .ok (.iload_n 1, 1) := by decide +kernel
theorem dX9_grow_1 : decode cX9_grow 1 = .ok (.iconst 1, 1) := by decide +kernel
theorem dX9_grow_2 : decode cX9_grow 2 = .ok (.if_icmp .ge 5, 3) := by decide +kernel
theorem dX9_grow_5 : decode cX9_grow 5 = .ok (.iconst (-1), 1) := by decide +kernel
theorem dX9_grow_6 : decode cX9_grow 6 = .ok (.ireturn, 1) := by decide +kernel
theorem dX9_grow_7 : decode cX9_grow 7 = .ok (.aload_n 0, 1) := by decide +kernel
theorem dX9_grow_8 : decode cX9_grow 8 = .ok (.invokevirtual 81, 3) := by decide +kernel
theorem dX9_grow_11 : decode cX9_grow 11 = .ok (.aload_n 0, 1) := by decide +kernel
theorem dX9_grow_12 : decode cX9_grow 12 = .ok (.getfield 85, 3) := by decide +kernel
theorem dX9_grow_15 : decode cX9_grow 15 = .ok (.isub, 1) := by decide +kernel
theorem dX9_grow_16 : decode cX9_grow 16 = .ok (.istore_n 2, 1) := by decide +kernel
theorem dX9_grow_17 : decode cX9_grow 17 = .ok (.iload_n 1, 1) := by decide +kernel
theorem dX9_grow_18 : decode cX9_grow 18 = .ok (.iload_n 2, 1) := by decide +kernel
theorem dX9_grow_19 : decode cX9_grow 19 = .ok (.if_icmp .ge 7, 3) := by decide +kernel
theorem dX9_grow_22 : decode cX9_grow 22 = .ok (.iload_n 1, 1) := by decide +kernel
theorem dX9_grow_23 : decode cX9_grow 23 = .ok (.goto 4, 3) := by decide +kernel
theorem dX9_grow_26 : decode cX9_grow 26 = .ok (.iload_n 2, 1) := by decide +kernel
theorem dX9_grow_27 : decode cX9_grow 27 = .ok (.istore_n 3, 1) := by decide +kernel
theorem dX9_grow_28 : decode cX9_grow 28 = .ok (.aload_n 0, 1) := by decide +kernel
theorem dX9_grow_29 : decode cX9_grow 29 = .ok (.getfield 85, 3) := by decide +kernel
theorem dX9_grow_32 : decode cX9_grow 32 = .ok (.istore 4, 2) := by decide +kernel
theorem dX9_grow_34 : decode cX9_grow 34 = .ok (.iload 4, 2) := by decide +kernel
theorem dX9_grow_36 : decode cX9_grow 36 = .ok (.aload_n 0, 1) := by decide +kernel
theorem dX9_grow_37 : decode cX9_grow 37 = .ok (.getfield 85, 3) := by decide +kernel
theorem dX9_grow_40 : decode cX9_grow 40 = .ok (.iload_n 3, 1) := by decide +kernel
theorem dX9_grow_41 : decode cX9_grow 41 = .ok (.iadd, 1) := by decide +kernel
theorem dX9_grow_42 : decode cX9_grow 42 = .ok (.if_icmp .ge 85, 3) := by decide +kernel
theorem dX9_grow_45 : decode cX9_grow 45 = .ok (.iconst 0, 1) := by decide +kernel
theorem dX9_grow_46 : decode cX9_grow 46 = .ok (.istore 5, 2) := by decide +kernel
theorem dX9_grow_48 : decode cX9_grow 48 = .ok (.iload 5, 2) := by decide +kernel
theorem dX9_grow_50 : decode cX9_grow 50 = .ok (.bipush 35, 2) := by decide +kernel
theorem dX9_grow_52 : decode cX9_grow 52 = .ok (.if_icmp .ge 41, 3) := by decide +kernel
theorem dX9_grow_55 : decode cX9_grow 55 = .ok (.aload_n 0, 1) := by decide +kernel
theorem dX9_grow_56 : decode cX9_grow 56 = .ok (.iload 4, 2) := by decide +kernel
theorem dX9_grow_58 : decode cX9_grow 58 = .ok (.iload 5, 2) := by decide +kernel
theorem dX9_grow_60 : decode cX9_grow 60 = .ok (.bipush 15, 2) := by decide +kernel
theorem dX9_grow_62 : decode cX9_grow 62 = .ok (.invokevirtual 95, 3) := by decide +kernel
theorem dX9_grow_65 : decode cX9_grow 65 = .ok (.aload_n 0, 1) := by decide +kernel
theorem dX9_grow_66 : decode cX9_grow 66 = .ok (.getfield 29, 3) := by decide +kernel
theorem dX9_grow_69 : decode cX9_grow 69 = .ok (.iload 5, 2) := by decide +kernel
theorem dX9_grow_71 : decode cX9_grow 71 = .ok (.aload_n 0, 1) := by decide +kernel
theorem dX9_grow_72 : decode cX9_grow 72 = .ok (.getfield 43, 3) := by decide +kernel
theorem dX9_grow_75 : decode cX9_grow 75 = .ok (.lastore, 1) := by decide +kernel
theorem dX9_grow_76 : decode cX9_grow 76 = .ok (.aload_n 0, 1) := by decide +kernel
theorem dX9_grow_77 : decode cX9_grow 77 = .ok (.getfield 32, 3) := by decide +kernel
theorem dX9_grow_80 : decode cX9_grow 80 = .ok (.iload 5, 2) := by decide +kernel
theorem dX9_grow_82 : decode cX9_grow 82 = .ok (.aload_n 0, 1) := by decide +kernel
theorem dX9_grow_83 : decode cX9_grow 83 = .ok (.getfield 47, 3) := by decide +kernel
theorem dX9_grow_86 : decode cX9_grow 86 = .ok (.lastore, 1) := by decide +kernel
theorem dX9_grow_87 : decode cX9_grow 87 = .ok (.iinc 5 1, 3) := by decide +kernel
theorem dX9_grow_90 : decode cX9_grow 90 = .ok (.goto (-42), 3) := by decide +kernel
theorem dX9_grow_93 : decode cX9_grow 93 = .ok (.aload_n 0, 1) := by decide +kernel
theorem dX9_grow_94 : decode cX9_grow 94 = .ok (.iload 4, 2) := by decide +kernel
theorem dX9_grow_96 : decode cX9_grow 96 = .ok (.invokevirtual 99, 3) := by decide +kernel
theorem dX9_grow_99 : decode cX9_grow 99 = .ok (.aload_n 0, 1) := by decide +kernel
theorem dX9_grow_100 : decode cX9_grow 100 = .ok (.getfield 13, 3) := by decide +kernel
theorem dX9_grow_103 : decode cX9_grow 103 = .ok (.iload 4, 2) := by decide +kernel
theorem dX9_grow_105 : decode cX9_grow 105 = .ok (.aload_n 0, 1) := by decide +kernel
theorem dX9_grow_106 : decode cX9_grow 106 = .ok (.getfield 43, 3) := by decide +kernel
theorem dX9_grow_109 : decode cX9_grow 109 = .ok (.lastore, 1) := by decide +kernel
theorem dX9_grow_110 : decode cX9_grow 110 = .ok (.aload_n 0, 1) := by decide +kernel
theorem dX9_grow_111 : decode cX9_grow 111 = .ok (.getfield 17, 3) := by decide +kernel
theorem dX9_grow_114 : decode cX9_grow 114 = .ok (.iload 4, 2) := by decide +kernel
theorem dX9_grow_116 : decode cX9_grow 116 = .ok (.aload_n 0, 1) := by decide +kernel
theorem dX9_grow_117 : decode cX9_grow 117 = .ok (.getfield 47, 3) := by decide +kernel
theorem dX9_grow_120 : decode cX9_grow 120 = .ok (.lastore, 1) := by decide +kernel
theorem dX9_grow_121 : decode cX9_grow 121 = .ok (.iinc 4 1, 3) := by decide +kernel
theorem dX9_grow_124 : decode cX9_grow 124 = .ok (.goto (-90), 3) := by decide +kernel
theorem dX9_grow_127 : decode cX9_grow 127 = .ok (.aload_n 0, 1) := by decide +kernel
theorem dX9_grow_128 : decode cX9_grow 128 = .ok (.dup, 1) := by decide +kernel
theorem dX9_grow_129 : decode cX9_grow 129 = .ok (.getfield 85, 3) := by decide +kernel
theorem dX9_grow_132 : decode cX9_grow 132 = .ok (.iload_n 3, 1) := by decide +kernel
theorem dX9_grow_133 : decode cX9_grow 133 = .ok (.iadd, 1) := by decide +kernel
theorem dX9_grow_134 : decode cX9_grow 134 = .ok (.putfield 85, 3) := by decide +kernel
theorem dX9_grow_137 : decode cX9_grow 137 = .ok (.iconst 1, 1) := by decide +kernel
theorem dX9_grow_138 : decode cX9_grow 138 = .ok (.istore 4, 2) := by decide +kernel
theorem dX9_grow_140 : decode cX9_grow 140 = .ok (.iload 4, 2) := by decide +kernel
theorem dX9_grow_142 : decode cX9_grow 142 = .ok (.aload_n 0, 1) := by decide +kernel
theorem dX9_grow_143 : decode cX9_grow 143 = .ok (.getfield 7, 3) := by decide +kernel
theorem dX9_grow_146 : decode cX9_grow 146 = .ok (.if_icmp .gt 114, 3) := by decide +kernel
theorem dX9_grow_149 : decode cX9_grow 149 = .ok (.iconst 0, 1) := by decide +kernel
theorem dX9_grow_150 : decode cX9_grow 150 = .ok (.istore 5, 2) := by decide +kernel
theorem dX9_grow_152 : decode cX9_grow 152 = .ok (.aload_n 0, 1) := by decide +kernel
theorem dX9_grow_153 : decode cX9_grow 153 = .ok (.iload 4, 2) := by decide +kernel
theorem dX9_grow_155 : decode cX9_grow 155 = .ok (.iload 5, 2) := by decide +kernel
theorem dX9_grow_157 : decode cX9_grow 157 = .ok (.invokevirtual 103, 3) := by decide +kernel
theorem dX9_grow_160 : decode cX9_grow 160 = .ok (.ifCond .eq 94, 3) := by decide +kernel
theorem dX9_grow_163 : decode cX9_grow 163 = .ok (.iload 4, 2) := by decide +kernel
theorem dX9_grow_165 : decode cX9_grow 165 = .ok (.iconst 1, 1) := by decide +kernel
theorem dX9_grow_166 : decode cX9_grow 166 = .ok (.isub, 1) := by decide +kernel
theorem dX9_grow_167 : decode cX9_grow 167 = .ok (.iconst 2, 1) := by decide +kernel
theorem dX9_grow_168 : decode cX9_grow 168 = .ok (.iload 5, 2) := by decide +kernel
theorem dX9_grow_170 : decode cX9_grow 170 = .ok (.imul, 1) := by decide +kernel
theorem dX9_grow_171 : decode cX9_grow 171 = .ok (.invokestatic 107, 3) := by decide +kernel
theorem dX9_grow_174 : decode cX9_grow 174 = .ok (.istore 6, 2) := by decide +kernel
theorem dX9_grow_176 : decode cX9_grow 176 = .ok (.aload_n 0, 1) := by decide +kernel
theorem dX9_grow_177 : decode cX9_grow 177 = .ok (.iload 4, 2) := by decide +kernel
theorem dX9_grow_179 : decode cX9_grow 179 = .ok (.iload 5, 2) := by decide +kernel
theorem dX9_grow_181 : decode cX9_grow 181 = .ok (.aload_n 0, 1) := by decide +kernel
theorem dX9_grow_182 : decode cX9_grow 182 = .ok (.getfield 13, 3) := by decide +kernel
theorem dX9_grow_185 : decode cX9_grow 185 = .ok (.iload 6, 2) := by decide +kernel
theorem dX9_grow_187 : decode cX9_grow 187 = .ok (.laload, 1) := by decide +kernel
theorem dX9_grow_188 : decode cX9_grow 188 = .ok (.aload_n 0, 1) := by decide +kernel
theorem dX9_grow_189 : decode cX9_grow 189 = .ok (.getfield 17, 3) := by decide +kernel
theorem dX9_grow_192 : decode cX9_grow 192 = .ok (.iload 6, 2) := by decide +kernel
theorem dX9_grow_194 : decode cX9_grow 194 = .ok (.laload, 1) := by decide +kernel
theorem dX9_grow_195 : decode cX9_grow 195 = .ok (.aload_n 0, 1) := by decide +kernel
theorem dX9_grow_196 : decode cX9_grow 196 = .ok (.getfield 13, 3) := by decide +kernel
theorem dX9_grow_199 : decode cX9_grow 199 = .ok (.iload 6, 2) := by decide +kernel
theorem dX9_grow_201 : decode cX9_grow 201 = .ok (.iconst 1, 1) := by decide +kernel
theorem dX9_grow_202 : decode cX9_grow 202 = .ok (.iadd, 1) := by decide +kernel
theorem dX9_grow_203 : decode cX9_grow 203 = .ok (.laload, 1) := by decide +kernel
theorem dX9_grow_204 : decode cX9_grow 204 = .ok (.aload_n 0, 1) := by decide +kernel
theorem dX9_grow_205 : decode cX9_grow 205 = .ok (.getfield 17, 3) := by decide +kernel
theorem dX9_grow_208 : decode cX9_grow 208 = .ok (.iload 6, 2) := by decide +kernel
theorem dX9_grow_210 : decode cX9_grow 210 = .ok (.iconst 1, 1) := by decide +kernel
theorem dX9_grow_211 : decode cX9_grow 211 = .ok (.iadd, 1) := by decide +kernel
theorem dX9_grow_212 : decode cX9_grow 212 = .ok (.laload, 1) := by decide +kernel
theorem dX9_grow_213 : decode cX9_grow 213 = .ok (.invokevirtual 111, 3) := by decide +kernel
theorem dX9_grow_216 : decode cX9_grow 216 = .ok (.aload_n 0, 1) := by decide +kernel
theorem dX9_grow_217 : decode cX9_grow 217 = .ok (.getfield 13, 3) := by decide +kernel
theorem dX9_grow_220 : decode cX9_grow 220 = .ok (.iload 4, 2) := by decide +kernel
theorem dX9_grow_222 : decode cX9_grow 222 = .ok (.iload 5, 2) := by decide +kernel
theorem dX9_grow_224 : decode cX9_grow 224 = .ok (.invokestatic 107, 3) := by decide +kernel
theorem dX9_grow_227 : decode cX9_grow 227 = .ok (.aload_n 0, 1) := by decide +kernel
theorem dX9_grow_228 : decode cX9_grow 228 = .ok (.getfield 43, 3) := by decide +kernel
theorem dX9_grow_231 : decode cX9_grow 231 = .ok (.lastore, 1) := by decide +kernel
theorem dX9_grow_232 : decode cX9_grow 232 = .ok (.aload_n 0, 1) := by decide +kernel
theorem dX9_grow_233 : decode cX9_grow 233 = .ok (.getfield 17, 3) := by decide +kernel
theorem dX9_grow_236 : decode cX9_grow 236 = .ok (.iload 4, 2) := by decide +kernel
theorem dX9_grow_238 : decode cX9_grow 238 = .ok (.iload 5, 2) := by decide +kernel
theorem dX9_grow_240 : decode cX9_grow 240 = .ok (.invokestatic 107, 3) := by decide +kernel
theorem dX9_grow_243 : decode cX9_grow 243 = .ok (.aload_n 0, 1) := by decide +kernel
theorem dX9_grow_244 : decode cX9_grow 244 = .ok (.getfield 47, 3) := by decide +kernel
theorem dX9_grow_247 : decode cX9_grow 247 = .ok (.lastore, 1) := by decide +kernel
theorem dX9_grow_248 : decode cX9_grow 248 = .ok (.iinc 5 1, 3) := by decide +kernel
theorem dX9_grow_251 : decode cX9_grow 251 = .ok (.goto (-99), 3) := by decide +kernel
theorem dX9_grow_254 : decode cX9_grow 254 = .ok (.iinc 4 1, 3) := by decide +kernel
theorem dX9_grow_257 : decode cX9_grow 257 = .ok (.goto (-117), 3) := by decide +kernel
theorem dX9_grow_260 : decode cX9_grow 260 = .ok (.aload_n 0, 1) := by decide +kernel
theorem dX9_grow_261 : decode cX9_grow 261 = .ok (.invokevirtual 81, 3) := by decide +kernel
theorem dX9_grow_264 : decode cX9_grow 264 = .ok (.aload_n 0, 1) := by decide +kernel
theorem dX9_grow_265 : decode cX9_grow 265 = .ok (.getfield 85, 3) := by decide +kernel
theorem dX9_grow_268 : decode cX9_grow 268 = .ok (.isub, 1) := by decide +kernel
theorem dX9_grow_269 : decode cX9_grow 269 = .ok (.ireturn, 1) := by decide +kernel
set_option maxRecDepth 20000 in
theorem ggX9_node_X9_isMade : GoodIn wsX9_node wsX9_isMade := goodIn_r _ [7, 8, 9, 10, 11, 12, 6, 13, 17, 18, 19, 20, 21, 22, 23, 24, 25, 26, 27, 28, 29, 30, 31, 32, 33, 34, 35, 36, 37] (by decide +kernel) (by decide +kernel)
set_option maxRecDepth 20000 in
theorem gX9_node_X9_isMade : GoodIn wsX9_node (wsV RX9 103 RX9 yX9_isMade wsX9_isMade) := goodIn_app (goodIn_of _ (by decide +kernel)) ggX9_node_X9_isMade
set_option maxRecDepth 20000 in
theorem ggX9_node_X9_at : GoodIn wsX9_node wsX9_at := goodIn_r _ [16] (by decide +kernel) (by decide +kernel)
set_option maxRecDepth 20000 in
theorem gX9_node_X9_at : GoodIn wsX9_node (va_wsS RX9 107 yX9_at wsX9_at) := goodIn_app (goodIn_of _ (by decide +kernel)) ggX9_node_X9_at
theorem dX9_node_0 : decode cX9_node 0 = .ok (.iload_n 3, 1) := by decide +kernel
theorem dX9_node_1 : decode cX9_node 1 = .ok (.ifCond .lt 17, 3) := by decide +kernel
theorem dX9_node_4 : decode cX9_node 4 = .ok (.iload_n 3, 1) := by decide +kernel
theorem dX9_node_5 : decode cX9_node 5 = .ok (.iconst 1, 1) := by decide +kernel
theorem dX9_node_6 : decode cX9_node 6 = .ok (.if_icmp .gt 12, 3) := by decide +kernel
theorem dX9_node_9 : decode cX9_node 9 = .ok (.aload_n 0, 1) := by decide +kernel
theorem dX9_node_10 : decode cX9_node 10 = .ok (.iload_n 1, 1) := by decide +kernel
theorem dX9_node_11 : decode cX9_node 11 = .ok (.iload_n 2, 1) := by decide +kernel
theorem dX9_node_12 : decode cX9_node 12 = .ok (.invokevirtual 103, 3) := by decide +kernel
theorem dX9_node_15 : decode cX9_node 15 = .ok (.ifCond .ne 5, 3) := by decide +kernel
theorem dX9_node_18 : decode cX9_node 18 = .ok (.lconst 0, 1) := by decide +kernel
theorem dX9_node_19 : decode cX9_node 19 = .ok (.lreturn, 1) := by decide +kernel
theorem dX9_node_20 : decode cX9_node 20 = .ok (.iload_n 3, 1) := by decide +kernel
theorem dX9_node_21 : decode cX9_node 21 = .ok (.ifCond .ne 16, 3) := by decide +kernel
theorem dX9_node_24 : decode cX9_node 24 = .ok (.aload_n 0, 1) := by decide +kernel
theorem dX9_node_25 : decode cX9_node 25 = .ok (.getfield 13, 3) := by decide +kernel
theorem dX9_node_28 : decode cX9_node 28 = .ok (.iload_n 1, 1) := by decide +kernel
theorem dX9_node_29 : decode cX9_node 29 = .ok (.iload_n 2, 1) := by decide +kernel
theorem dX9_node_30 : decode cX9_node 30 = .ok (.invokestatic 107, 3) := by decide +kernel
theorem dX9_node_33 : decode cX9_node 33 = .ok (.laload, 1) := by decide +kernel
theorem dX9_node_34 : decode cX9_node 34 = .ok (.goto 13, 3) := by decide +kernel
theorem dX9_node_37 : decode cX9_node 37 = .ok (.aload_n 0, 1) := by decide +kernel
theorem dX9_node_38 : decode cX9_node 38 = .ok (.getfield 17, 3) := by decide +kernel
theorem dX9_node_41 : decode cX9_node 41 = .ok (.iload_n 1, 1) := by decide +kernel
theorem dX9_node_42 : decode cX9_node 42 = .ok (.iload_n 2, 1) := by decide +kernel
theorem dX9_node_43 : decode cX9_node 43 = .ok (.invokestatic 107, 3) := by decide +kernel
theorem dX9_node_46 : decode cX9_node 46 = .ok (.laload, 1) := by decide +kernel
theorem dX9_node_47 : decode cX9_node 47 = .ok (.lreturn, 1) := by decide +kernel
theorem dX9_feed_0 : decode cX9_feed 0 = .ok (.aload_n 0, 1) := by decide +kernel
theorem dX9_feed_1 : decode cX9_feed 1 = .ok (.getfield 115, 3) := by decide +kernel
theorem dX9_feed_4 : decode cX9_feed 4 = .ok (.bipush 20, 2) := by decide +kernel
theorem dX9_feed_6 : decode cX9_feed 6 = .ok (.if_icmp .ne 5, 3) := by decide +kernel
theorem dX9_feed_9 : decode cX9_feed 9 = .ok (.iconst (-1), 1) := by decide +kernel
theorem dX9_feed_10 : decode cX9_feed 10 = .ok (.ireturn, 1) := by decide +kernel
theorem dX9_feed_11 : decode cX9_feed 11 = .ok (.aload_n 0, 1) := by decide +kernel
theorem dX9_feed_12 : decode cX9_feed 12 = .ok (.getfield 20, 3) := by decide +kernel
theorem dX9_feed_15 : decode cX9_feed 15 = .ok (.aload_n 0, 1) := by decide +kernel
theorem dX9_feed_16 : decode cX9_feed 16 = .ok (.getfield 115, 3) := by decide +kernel
theorem dX9_feed_19 : decode cX9_feed 19 = .ok (.lload_n 1, 1) := by decide +kernel
theorem dX9_feed_20 : decode cX9_feed 20 = .ok (.lastore, 1) := by decide +kernel
theorem dX9_feed_21 : decode cX9_feed 21 = .ok (.aload_n 0, 1) := by decide +kernel
theorem dX9_feed_22 : decode cX9_feed 22 = .ok (.dup, 1) := by decide +kernel
theorem dX9_feed_23 : decode cX9_feed 23 = .ok (.getfield 115, 3) := by decide +kernel
theorem dX9_feed_26 : decode cX9_feed 26 = .ok (.iconst 1, 1) := by decide +kernel
theorem dX9_feed_27 : decode cX9_feed 27 = .ok (.iadd, 1) := by decide +kernel
theorem dX9_feed_28 : decode cX9_feed 28 = .ok (.putfield 115, 3) := by decide +kernel
theorem dX9_feed_31 : decode cX9_feed 31 = .ok (.aload_n 0, 1) := by decide +kernel
theorem dX9_feed_32 : decode cX9_feed 32 = .ok (.getfield 115, 3) := by decide +kernel
theorem dX9_feed_35 : decode cX9_feed 35 = .ok (.ireturn, 1) := by decide +kernel
theorem dX9_reset_0 : decode cX9_reset 0 = .ok (.aload_n 0, 1) := by decide +kernel
theorem dX9_reset_1 : decode cX9_reset 1 = .ok (.getfield 115, 3) := by decide +kernel
theorem dX9_reset_4 : decode cX9_reset 4 = .ok (.istore_n 1, 1) := by decide +kernel
theorem dX9_reset_5 : decode cX9_reset 5 = .ok (.aload_n 0, 1) := by decide +kernel
theorem dX9_reset_6 : decode cX9_reset 6 = .ok (.iconst 0, 1) := by decide +kernel
theorem dX9_reset_7 : decode cX9_reset 7 = .ok (.putfield 115, 3) := by decide +kernel
theorem dX9_reset_10 : decode cX9_reset 10 = .ok (.iload_n 1, 1) := by decide +kernel
theorem dX9_reset_11 : decode cX9_reset 11 = .ok (.ireturn, 1) := by decide +kernel
end
section
set_option maxRecDepth 20000 in
theorem ggX9_findDigits_X9_take : GoodIn wsX9_findDigits wsX9_take := goodIn_r _ [12, 5, 6, 22, 23, 24, 25, 26, 27, 28, 29, 30, 31, 32, 33, 34, 35, 36, 37, 38, 39, 40, 41, 42] (by decide +kernel) (by decide +kernel)
set_option maxRecDepth 20000 in
theorem gX9_findDigits_X9_take : GoodIn wsX9_findDigits (wsV RX9 56 RX9 yX9_take wsX9_take) := goodIn_app (goodIn_of _ (by decide +kernel)) ggX9_findDigits_X9_take
set_option maxRecDepth 20000 in
theorem ggX9_findDigits_X9_put : GoodIn wsX9_findDigits wsX9_put := goodIn_r _ [16, 5, 6, 17, 18, 11, 19, 20, 21, 22, 23, 24, 25, 26, 27, 28, 29, 30, 31, 32, 33, 34, 35, 36, 37, 38, 39, 40, 41, 42] (by decide +kernel) (by decide +kernel)
set_option maxRecDepth 20000 in
theorem gX9_findDigits_X9_put : GoodIn wsX9_findDigits (wsV RX9 63 RX9 yX9_put wsX9_put) := goodIn_app (goodIn_of _ (by decide +kernel)) ggX9_findDigits_X9_put
theorem dX9_findDigits_0 : decode cX9_findDigits 0 = .ok (.aload_n 0, 1) := by decide +kernel
theorem dX9_findDigits_1 : decode cX9_findDigits 1 = .ok (.ldc2_w 118, 3) := by decide +kernel
theorem dX9_findDigits_4 : decode cX9_findDigits 4 = .ok (.iconst 4, 1) := by decide +kernel
theorem dX9_findDigits_5 : decode cX9_findDigits 5 = .ok (.aload_n 0, 1) := by decide +kernel
theorem dX9_findDigits_6 : decode cX9_findDigits 6 = .ok (.getfield 115, 3) := by decide +kernel
theorem dX9_findDigits_9 : decode cX9_findDigits 9 = .ok (.iadd, 1) := by decide +kernel
theorem dX9_findDigits_10 : decode cX9_findDigits 10 = .ok (.invokevirtual 56, 3) := by decide +kernel
theorem dX9_findDigits_13 : decode cX9_findDigits 13 = .ok (.aload_n 0, 1) := by decide +kernel
theorem dX9_findDigits_14 : decode cX9_findDigits 14 = .ok (.aload_n 0, 1) := by decide +kernel
theorem dX9_findDigits_15 : decode cX9_findDigits 15 = .ok (.getfield 60, 3) := by decide +kernel
theorem dX9_findDigits_18 : decode cX9_findDigits 18 = .ok (.invokevirtual 63, 3) := by decide +kernel
theorem dX9_findDigits_21 : decode cX9_findDigits 21 = .ok (.aload_n 0, 1) := by decide +kernel
theorem dX9_findDigits_22 : decode cX9_findDigits 22 = .ok (.iload_n 1, 1) := by decide +kernel
theorem dX9_findDigits_23 : decode cX9_findDigits 23 = .ok (.i2l, 1) := by decide +kernel
theorem dX9_findDigits_24 : decode cX9_findDigits 24 = .ok (.invokevirtual 63, 3) := by decide +kernel
theorem dX9_findDigits_27 : decode cX9_findDigits 27 = .ok (.aload_n 0, 1) := by decide +kernel
theorem dX9_findDigits_28 : decode cX9_findDigits 28 = .ok (.lload_n 2, 1) := by decide +kernel
theorem dX9_findDigits_29 : decode cX9_findDigits 29 = .ok (.invokevirtual 63, 3) := by decide +kernel
theorem dX9_findDigits_32 : decode cX9_findDigits 32 = .ok (.aload_n 0, 1) := by decide +kernel
theorem dX9_findDigits_33 : decode cX9_findDigits 33 = .ok (.lload 4, 2) := by decide +kernel
theorem dX9_findDigits_35 : decode cX9_findDigits 35 = .ok (.invokevirtual 63, 3) := by decide +kernel
theorem dX9_findDigits_38 : decode cX9_findDigits 38 = .ok (.iconst 0, 1) := by decide +kernel
theorem dX9_findDigits_39 : decode cX9_findDigits 39 = .ok (.istore 6, 2) := by decide +kernel
theorem dX9_findDigits_41 : decode cX9_findDigits 41 = .ok (.iload 6, 2) := by decide +kernel
theorem dX9_findDigits_43 : decode cX9_findDigits 43 = .ok (.aload_n 0, 1) := by decide +kernel
theorem dX9_findDigits_44 : decode cX9_findDigits 44 = .ok (.getfield 115, 3) := by decide +kernel
theorem dX9_findDigits_47 : decode cX9_findDigits 47 = .ok (.if_icmp .ge 20, 3) := by decide +kernel
theorem dX9_findDigits_50 : decode cX9_findDigits 50 = .ok (.aload_n 0, 1) := by decide +kernel
theorem dX9_findDigits_51 : decode cX9_findDigits 51 = .ok (.aload_n 0, 1) := by decide +kernel
theorem dX9_findDigits_52 : decode cX9_findDigits 52 = .ok (.getfield 20, 3) := by decide +kernel
theorem dX9_findDigits_55 : decode cX9_findDigits 55 = .ok (.iload 6, 2) := by decide +kernel
theorem dX9_findDigits_57 : decode cX9_findDigits 57 = .ok (.laload, 1) := by decide +kernel
theorem dX9_findDigits_58 : decode cX9_findDigits 58 = .ok (.invokevirtual 63, 3) := by decide +kernel
theorem dX9_findDigits_61 : decode cX9_findDigits 61 = .ok (.iinc 6 1, 3) := by decide +kernel
theorem dX9_findDigits_64 : decode cX9_findDigits 64 = .ok (.goto (-23), 3) := by decide +kernel
theorem dX9_findDigits_67 : decode cX9_findDigits 67 = .ok (.iconst 0, 1) := by decide +kernel
theorem dX9_findDigits_68 : decode cX9_findDigits 68 = .ok (.istore 6, 2) := by decide +kernel
theorem dX9_findDigits_70 : decode cX9_findDigits 70 = .ok (.iconst 0, 1) := by decide +kernel
theorem dX9_findDigits_71 : decode cX9_findDigits 71 = .ok (.istore 7, 2) := by decide +kernel
theorem dX9_findDigits_73 : decode cX9_findDigits 73 = .ok (.iload 7, 2) := by decide +kernel
theorem dX9_findDigits_75 : decode cX9_findDigits 75 = .ok (.bipush 32, 2) := by decide +kernel
theorem dX9_findDigits_77 : decode cX9_findDigits 77 = .ok (.if_icmp .ge 68, 3) := by decide +kernel
theorem dX9_findDigits_80 : decode cX9_findDigits 80 = .ok (.iload 7, 2) := by decide +kernel
theorem dX9_findDigits_82 : decode cX9_findDigits 82 = .ok (.bipush 16, 2) := by decide +kernel
theorem dX9_findDigits_84 : decode cX9_findDigits 84 = .ok (.if_icmp .ge 10, 3) := by decide +kernel
theorem dX9_findDigits_87 : decode cX9_findDigits 87 = .ok (.aload_n 0, 1) := by decide +kernel
theorem dX9_findDigits_88 : decode cX9_findDigits 88 = .ok (.getfield 43, 3) := by decide +kernel
theorem dX9_findDigits_91 : decode cX9_findDigits 91 = .ok (.goto 7, 3) := by decide +kernel
theorem dX9_findDigits_94 : decode cX9_findDigits 94 = .ok (.aload_n 0, 1) := by decide +kernel
theorem dX9_findDigits_95 : decode cX9_findDigits 95 = .ok (.getfield 47, 3) := by decide +kernel
theorem dX9_findDigits_98 : decode cX9_findDigits 98 = .ok (.lstore 8, 2) := by decide +kernel
theorem dX9_findDigits_100 : decode cX9_findDigits 100 = .ok (.aload_n 0, 1) := by decide +kernel
theorem dX9_findDigits_101 : decode cX9_findDigits 101 = .ok (.getfield 35, 3) := by decide +kernel
theorem dX9_findDigits_104 : decode cX9_findDigits 104 = .ok (.iload 7, 2) := by decide +kernel
theorem dX9_findDigits_106 : decode cX9_findDigits 106 = .ok (.lload 8, 2) := by decide +kernel
theorem dX9_findDigits_108 : decode cX9_findDigits 108 = .ok (.bipush 60, 2) := by decide +kernel
theorem dX9_findDigits_110 : decode cX9_findDigits 110 = .ok (.iconst 4, 1) := by decide +kernel
theorem dX9_findDigits_111 : decode cX9_findDigits 111 = .ok (.iload 7, 2) := by decide +kernel
theorem dX9_findDigits_113 : decode cX9_findDigits 113 = .ok (.bipush 16, 2) := by decide +kernel
theorem dX9_findDigits_115 : decode cX9_findDigits 115 = .ok (.irem, 1) := by decide +kernel
theorem dX9_findDigits_116 : decode cX9_findDigits 116 = .ok (.imul, 1) := by decide +kernel
theorem dX9_findDigits_117 : decode cX9_findDigits 117 = .ok (.isub, 1) := by decide +kernel
theorem dX9_findDigits_118 : decode cX9_findDigits 118 = .ok (.lushr, 1) := by decide +kernel
theorem dX9_findDigits_119 : decode cX9_findDigits 119 = .ok (.l2i, 1) := by decide +kernel
theorem dX9_findDigits_120 : decode cX9_findDigits 120 = .ok (.bipush 15, 2) := by decide +kernel
theorem dX9_findDigits_122 : decode cX9_findDigits 122 = .ok (.iand, 1) := by decide +kernel
theorem dX9_findDigits_123 : decode cX9_findDigits 123 = .ok (.iastore, 1) := by decide +kernel
theorem dX9_findDigits_124 : decode cX9_findDigits 124 = .ok (.iload 6, 2) := by decide +kernel
theorem dX9_findDigits_126 : decode cX9_findDigits 126 = .ok (.bipush 15, 2) := by decide +kernel
theorem dX9_findDigits_128 : decode cX9_findDigits 128 = .ok (.aload_n 0, 1) := by decide +kernel
theorem dX9_findDigits_129 : decode cX9_findDigits 129 = .ok (.getfield 35, 3) := by decide +kernel
theorem dX9_findDigits_132 : decode cX9_findDigits 132 = .ok (.iload 7, 2) := by decide +kernel
theorem dX9_findDigits_134 : decode cX9_findDigits 134 = .ok (.iaload, 1) := by decide +kernel
theorem dX9_findDigits_135 : decode cX9_findDigits 135 = .ok (.isub, 1) := by decide +kernel
theorem dX9_findDigits_136 : decode cX9_findDigits 136 = .ok (.iadd, 1) := by decide +kernel
theorem dX9_findDigits_137 : decode cX9_findDigits 137 = .ok (.istore 6, 2) := by decide +kernel
theorem dX9_findDigits_139 : decode cX9_findDigits 139 = .ok (.iinc 7 1, 3) := by decide +kernel
theorem dX9_findDigits_142 : decode cX9_findDigits 142 = .ok (.goto (-69), 3) := by decide +kernel
theorem dX9_findDigits_145 : decode cX9_findDigits 145 = .ok (.aload_n 0, 1) := by decide +kernel
theorem dX9_findDigits_146 : decode cX9_findDigits 146 = .ok (.getfield 35, 3) := by decide +kernel
theorem dX9_findDigits_149 : decode cX9_findDigits 149 = .ok (.bipush 32, 2) := by decide +kernel
theorem dX9_findDigits_151 : decode cX9_findDigits 151 = .ok (.iload 6, 2) := by decide +kernel
theorem dX9_findDigits_153 : decode cX9_findDigits 153 = .ok (.sipush 256, 3) := by decide +kernel
theorem dX9_findDigits_156 : decode cX9_findDigits 156 = .ok (.idiv, 1) := by decide +kernel
theorem dX9_findDigits_157 : decode cX9_findDigits 157 = .ok (.iastore, 1) := by decide +kernel
theorem dX9_findDigits_158 : decode cX9_findDigits 158 = .ok (.aload_n 0, 1) := by decide +kernel
theorem dX9_findDigits_159 : decode cX9_findDigits 159 = .ok (.getfield 35, 3) := by decide +kernel
theorem dX9_findDigits_162 : decode cX9_findDigits 162 = .ok (.bipush 33, 2) := by decide +kernel
theorem dX9_findDigits_164 : decode cX9_findDigits 164 = .ok (.iload 6, 2) := by decide +kernel
theorem dX9_findDigits_166 : decode cX9_findDigits 166 = .ok (.bipush 16, 2) := by decide +kernel
theorem dX9_findDigits_168 : decode cX9_findDigits 168 = .ok (.idiv, 1) := by decide +kernel
theorem dX9_findDigits_169 : decode cX9_findDigits 169 = .ok (.bipush 16, 2) := by decide +kernel
theorem dX9_findDigits_171 : decode cX9_findDigits 171 = .ok (.irem, 1) := by decide +kernel
theorem dX9_findDigits_172 : decode cX9_findDigits 172 = .ok (.iastore, 1) := by decide +kernel
theorem dX9_findDigits_173 : decode cX9_findDigits 173 = .ok (.aload_n 0, 1) := by decide +kernel
theorem dX9_findDigits_174 : decode cX9_findDigits 174 = .ok (.getfield 35, 3) := by decide +kernel
theorem dX9_findDigits_177 : decode cX9_findDigits 177 = .ok (.bipush 34, 2) := by decide +kernel
theorem dX9_findDigits_179 : decode cX9_findDigits 179 = .ok (.iload 6, 2) := by decide +kernel
theorem dX9_findDigits_181 : decode cX9_findDigits 181 = .ok (.bipush 16, 2) := by decide +kernel
theorem dX9_findDigits_183 : decode cX9_findDigits 183 = .ok (.irem, 1) := by decide +kernel
theorem dX9_findDigits_184 : decode cX9_findDigits 184 = .ok (.iastore, 1) := by decide +kernel
theorem dX9_findDigits_185 : decode cX9_findDigits 185 = .ok (.return_, 1) := by decide +kernel
set_option maxRecDepth 20000 in
theorem ggX9_digit_X9_hasRoot : GoodIn wsX9_digit wsX9_hasRoot := goodIn_r _ [9, 10, 11, 12, 13, 8, 14, 2, 41, 42, 43, 44, 45, 46, 47, 48, 49, 50, 51, 52, 53, 54, 55, 56, 57, 58, 59, 60, 61] (by decide +kernel) (by decide +kernel)
set_option maxRecDepth 20000 in
theorem gX9_digit_X9_hasRoot : GoodIn wsX9_digit (wsV RX9 120 RX9 yX9_hasRoot wsX9_hasRoot) := goodIn_app (goodIn_of _ (by decide +kernel)) ggX9_digit_X9_hasRoot
set_option maxRecDepth 20000 in
theorem ggX9_digit_X9_leaves : GoodIn wsX9_digit wsX9_leaves := goodIn_r _ [14, 2, 41, 42, 43, 44, 45, 46, 47, 48, 49, 50, 51, 52, 53, 54, 55, 56, 57, 58, 59, 60, 61] (by decide +kernel) (by decide +kernel)
set_option maxRecDepth 20000 in
theorem gX9_digit_X9_leaves : GoodIn wsX9_digit (wsV RX9 81 RX9 yX9_leaves wsX9_leaves) := goodIn_app (goodIn_of _ (by decide +kernel)) ggX9_digit_X9_leaves
set_option maxRecDepth 20000 in
theorem ggX9_digit_X9_at : GoodIn wsX9_digit wsX9_at := goodIn_r _ [17] (by decide +kernel) (by decide +kernel)
set_option maxRecDepth 20000 in
theorem gX9_digit_X9_at : GoodIn wsX9_digit (va_wsS RX9 107 yX9_at wsX9_at) := goodIn_app (goodIn_of _ (by decide +kernel)) ggX9_digit_X9_at
set_option maxRecDepth 20000 in
theorem ggX9_digit_X9_findDigits : GoodIn wsX9_digit wsX9_findDigits := goodIn_r _ [21, 22, 23, 24, 25, 26, 27, 4, 28, 29, 30, 8, 31, 32, 33, 34, 35, 36, 37, 38, 39, 40, 41, 42, 43, 44, 45, 46, 47, 48, 49, 50, 51, 52, 53, 54, 55, 56, 57, 58, 59, 60, 61] (by decide +kernel) (by decide +kernel)
set_option maxRecDepth 20000 in
theorem gX9_digit_X9_findDigits : GoodIn wsX9_digit (wsV RX9 124 RX9 yX9_findDigits wsX9_findDigits) := goodIn_app (goodIn_of _ (by decide +kernel)) ggX9_digit_X9_findDigits
theorem dX9_digit_0 : decode cX9_digit 0 = .ok (.aload_n 0, 1) := by decide +kernel
theorem dX9_digit_1 : decode cX9_digit 1 = .ok (.invokevirtual 120, 3) := by decide +kernel
theorem dX9_digit_4 : decode cX9_digit 4 = .ok (.ifCond .eq 25, 3) := by decide +kernel
theorem dX9_digit_7 : decode cX9_digit 7 = .ok (.iload_n 1, 1) := by decide +kernel
theorem dX9_digit_8 : decode cX9_digit 8 = .ok (.ifCond .lt 21, 3) := by decide +kernel
theorem dX9_digit_11 : decode cX9_digit 11 = .ok (.iload_n 1, 1) := by decide +kernel
theorem dX9_digit_12 : decode cX9_digit 12 = .ok (.aload_n 0, 1) := by decide +kernel
theorem dX9_digit_13 : decode cX9_digit 13 = .ok (.invokevirtual 81, 3) := by decide +kernel
theorem dX9_digit_16 : decode cX9_digit 16 = .ok (.if_icmp .ge 13, 3) := by decide +kernel
theorem dX9_digit_19 : decode cX9_digit 19 = .ok (.iload_n 2, 1) := by decide +kernel
theorem dX9_digit_20 : decode cX9_digit 20 = .ok (.ifCond .lt 9, 3) := by decide +kernel
theorem dX9_digit_23 : decode cX9_digit 23 = .ok (.iload_n 2, 1) := by decide +kernel
theorem dX9_digit_24 : decode cX9_digit 24 = .ok (.bipush 35, 2) := by decide +kernel
theorem dX9_digit_26 : decode cX9_digit 26 = .ok (.if_icmp .lt 5, 3) := by decide +kernel
theorem dX9_digit_29 : decode cX9_digit 29 = .ok (.iconst (-1), 1) := by decide +kernel
theorem dX9_digit_30 : decode cX9_digit 30 = .ok (.ireturn, 1) := by decide +kernel
theorem dX9_digit_31 : decode cX9_digit 31 = .ok (.aload_n 0, 1) := by decide +kernel
theorem dX9_digit_32 : decode cX9_digit 32 = .ok (.iload_n 1, 1) := by decide +kernel
theorem dX9_digit_33 : decode cX9_digit 33 = .ok (.aload_n 0, 1) := by decide +kernel
theorem dX9_digit_34 : decode cX9_digit 34 = .ok (.getfield 13, 3) := by decide +kernel
theorem dX9_digit_37 : decode cX9_digit 37 = .ok (.aload_n 0, 1) := by decide +kernel
theorem dX9_digit_38 : decode cX9_digit 38 = .ok (.getfield 7, 3) := by decide +kernel
theorem dX9_digit_41 : decode cX9_digit 41 = .ok (.iconst 0, 1) := by decide +kernel
theorem dX9_digit_42 : decode cX9_digit 42 = .ok (.invokestatic 107, 3) := by decide +kernel
theorem dX9_digit_45 : decode cX9_digit 45 = .ok (.laload, 1) := by decide +kernel
theorem dX9_digit_46 : decode cX9_digit 46 = .ok (.aload_n 0, 1) := by decide +kernel
theorem dX9_digit_47 : decode cX9_digit 47 = .ok (.getfield 17, 3) := by decide +kernel
theorem dX9_digit_50 : decode cX9_digit 50 = .ok (.aload_n 0, 1) := by decide +kernel
theorem dX9_digit_51 : decode cX9_digit 51 = .ok (.getfield 7, 3) := by decide +kernel
theorem dX9_digit_54 : decode cX9_digit 54 = .ok (.iconst 0, 1) := by decide +kernel
theorem dX9_digit_55 : decode cX9_digit 55 = .ok (.invokestatic 107, 3) := by decide +kernel
theorem dX9_digit_58 : decode cX9_digit 58 = .ok (.laload, 1) := by decide +kernel
theorem dX9_digit_59 : decode cX9_digit 59 = .ok (.invokevirtual 124, 3) := by decide +kernel
theorem dX9_digit_62 : decode cX9_digit 62 = .ok (.aload_n 0, 1) := by decide +kernel
theorem dX9_digit_63 : decode cX9_digit 63 = .ok (.getfield 35, 3) := by decide +kernel
theorem dX9_digit_66 : decode cX9_digit 66 = .ok (.iload_n 2, 1) := by decide +kernel
theorem dX9_digit_67 : decode cX9_digit 67 = .ok (.iaload, 1) := by decide +kernel
theorem dX9_digit_68 : decode cX9_digit 68 = .ok (.ireturn, 1) := by decide +kernel
set_option maxRecDepth 20000 in
theorem ggX9_sign_X9_hasRoot : GoodIn wsX9_sign wsX9_hasRoot := goodIn_r _ [16, 17, 18, 19, 20, 15, 21, 3, 57, 58, 59, 60, 61, 62, 63, 64, 65, 66, 67, 68, 69, 70, 71, 72, 73, 74, 75, 76, 77] (by decide +kernel) (by decide +kernel)
set_option maxRecDepth 20000 in
theorem gX9_sign_X9_hasRoot : GoodIn wsX9_sign (wsV RX9 120 RX9 yX9_hasRoot wsX9_hasRoot) := goodIn_app (goodIn_of _ (by decide +kernel)) ggX9_sign_X9_hasRoot
set_option maxRecDepth 20000 in
theorem ggX9_sign_X9_leaves : GoodIn wsX9_sign wsX9_leaves := goodIn_r _ [21, 3, 57, 58, 59, 60, 61, 62, 63, 64, 65, 66, 67, 68, 69, 70, 71, 72, 73, 74, 75, 76, 77] (by decide +kernel) (by decide +kernel)
set_option maxRecDepth 20000 in
theorem gX9_sign_X9_leaves : GoodIn wsX9_sign (wsV RX9 81 RX9 yX9_leaves wsX9_leaves) := goodIn_app (goodIn_of _ (by decide +kernel)) ggX9_sign_X9_leaves
set_option maxRecDepth 20000 in
theorem ggX9_sign_X9_at : GoodIn wsX9_sign wsX9_at := goodIn_r _ [24] (by decide +kernel) (by decide +kernel)
set_option maxRecDepth 20000 in
theorem gX9_sign_X9_at : GoodIn wsX9_sign (va_wsS RX9 107 yX9_at wsX9_at) := goodIn_app (goodIn_of _ (by decide +kernel)) ggX9_sign_X9_at
set_option maxRecDepth 20000 in
theorem ggX9_sign_X9_findDigits : GoodIn wsX9_sign wsX9_findDigits := goodIn_r _ [28, 29, 30, 31, 32, 7, 9, 5, 33, 34, 35, 15, 36, 37, 38, 39, 40, 41, 42, 43, 44, 45, 57, 58, 59, 60, 61, 62, 63, 64, 65, 66, 67, 68, 69, 70, 71, 72, 73, 74, 75, 76, 77] (by decide +kernel) (by decide +kernel)
set_option maxRecDepth 20000 in
theorem gX9_sign_X9_findDigits : GoodIn wsX9_sign (wsV RX9 124 RX9 yX9_findDigits wsX9_findDigits) := goodIn_app (goodIn_of _ (by decide +kernel)) ggX9_sign_X9_findDigits
set_option maxRecDepth 20000 in
theorem ggX9_sign_X9_place : GoodIn wsX9_sign wsX9_place := goodIn_r _ [49, 50, 51, 33, 34, 35, 15, 36, 7, 9, 37, 38, 39, 40, 41, 42, 43, 44, 45, 52, 53, 54, 55, 56, 31, 57, 58, 59, 60, 61, 62, 63, 64, 65, 66, 67, 68, 69, 70, 71, 72, 73, 74, 75, 76, 77] (by decide +kernel) (by decide +kernel)
set_option maxRecDepth 20000 in
theorem gX9_sign_X9_place : GoodIn wsX9_sign (wsV RX9 95 RX9 yX9_place wsX9_place) := goodIn_app (goodIn_of _ (by decide +kernel)) ggX9_sign_X9_place
theorem dX9_sign_0 : decode cX9_sign 0 = .ok (.aload_n 0, 1) := by decide +kernel
theorem dX9_sign_1 : decode cX9_sign 1 = .ok (.invokevirtual 120, 3) := by decide +kernel
theorem dX9_sign_4 : decode cX9_sign 4 = .ok (.ifCond .ne 5, 3) := by decide +kernel
theorem dX9_sign_7 : decode cX9_sign 7 = .ok (.iconst (-1), 1) := by decide +kernel
theorem dX9_sign_8 : decode cX9_sign 8 = .ok (.ireturn, 1) := by decide +kernel
theorem dX9_sign_9 : decode cX9_sign 9 = .ok (.aload_n 0, 1) := by decide +kernel
theorem dX9_sign_10 : decode cX9_sign 10 = .ok (.getfield 88, 3) := by decide +kernel
theorem dX9_sign_13 : decode cX9_sign 13 = .ok (.aload_n 0, 1) := by decide +kernel
theorem dX9_sign_14 : decode cX9_sign 14 = .ok (.invokevirtual 81, 3) := by decide +kernel
theorem dX9_sign_17 : decode cX9_sign 17 = .ok (.if_icmp .ne 6, 3) := by decide +kernel
theorem dX9_sign_20 : decode cX9_sign 20 = .ok (.bipush (-2), 2) := by decide +kernel
theorem dX9_sign_22 : decode cX9_sign 22 = .ok (.ireturn, 1) := by decide +kernel
theorem dX9_sign_23 : decode cX9_sign 23 = .ok (.aload_n 0, 1) := by decide +kernel
theorem dX9_sign_24 : decode cX9_sign 24 = .ok (.getfield 88, 3) := by decide +kernel
theorem dX9_sign_27 : decode cX9_sign 27 = .ok (.istore_n 1, 1) := by decide +kernel
theorem dX9_sign_28 : decode cX9_sign 28 = .ok (.aload_n 0, 1) := by decide +kernel
theorem dX9_sign_29 : decode cX9_sign 29 = .ok (.dup, 1) := by decide +kernel
theorem dX9_sign_30 : decode cX9_sign 30 = .ok (.getfield 88, 3) := by decide +kernel
theorem dX9_sign_33 : decode cX9_sign 33 = .ok (.iconst 1, 1) := by decide +kernel
theorem dX9_sign_34 : decode cX9_sign 34 = .ok (.iadd, 1) := by decide +kernel
theorem dX9_sign_35 : decode cX9_sign 35 = .ok (.putfield 88, 3) := by decide +kernel
theorem dX9_sign_38 : decode cX9_sign 38 = .ok (.aload_n 0, 1) := by decide +kernel
theorem dX9_sign_39 : decode cX9_sign 39 = .ok (.iload_n 1, 1) := by decide +kernel
theorem dX9_sign_40 : decode cX9_sign 40 = .ok (.aload_n 0, 1) := by decide +kernel
theorem dX9_sign_41 : decode cX9_sign 41 = .ok (.getfield 13, 3) := by decide +kernel
theorem dX9_sign_44 : decode cX9_sign 44 = .ok (.aload_n 0, 1) := by decide +kernel
theorem dX9_sign_45 : decode cX9_sign 45 = .ok (.getfield 7, 3) := by decide +kernel
theorem dX9_sign_48 : decode cX9_sign 48 = .ok (.iconst 0, 1) := by decide +kernel
theorem dX9_sign_49 : decode cX9_sign 49 = .ok (.invokestatic 107, 3) := by decide +kernel
theorem dX9_sign_52 : decode cX9_sign 52 = .ok (.laload, 1) := by decide +kernel
theorem dX9_sign_53 : decode cX9_sign 53 = .ok (.aload_n 0, 1) := by decide +kernel
theorem dX9_sign_54 : decode cX9_sign 54 = .ok (.getfield 17, 3) := by decide +kernel
theorem dX9_sign_57 : decode cX9_sign 57 = .ok (.aload_n 0, 1) := by decide +kernel
theorem dX9_sign_58 : decode cX9_sign 58 = .ok (.getfield 7, 3) := by decide +kernel
theorem dX9_sign_61 : decode cX9_sign 61 = .ok (.iconst 0, 1) := by decide +kernel
theorem dX9_sign_62 : decode cX9_sign 62 = .ok (.invokestatic 107, 3) := by decide +kernel
theorem dX9_sign_65 : decode cX9_sign 65 = .ok (.laload, 1) := by decide +kernel
theorem dX9_sign_66 : decode cX9_sign 66 = .ok (.invokevirtual 124, 3) := by decide +kernel
theorem dX9_sign_69 : decode cX9_sign 69 = .ok (.iconst 0, 1) := by decide +kernel
theorem dX9_sign_70 : decode cX9_sign 70 = .ok (.istore_n 2, 1) := by decide +kernel
theorem dX9_sign_71 : decode cX9_sign 71 = .ok (.iload_n 2, 1) := by decide +kernel
theorem dX9_sign_72 : decode cX9_sign 72 = .ok (.bipush 35, 2) := by decide +kernel
theorem dX9_sign_74 : decode cX9_sign 74 = .ok (.if_icmp .ge 41, 3) := by decide +kernel
theorem dX9_sign_77 : decode cX9_sign 77 = .ok (.aload_n 0, 1) := by decide +kernel
theorem dX9_sign_78 : decode cX9_sign 78 = .ok (.iload_n 1, 1) := by decide +kernel
theorem dX9_sign_79 : decode cX9_sign 79 = .ok (.iload_n 2, 1) := by decide +kernel
theorem dX9_sign_80 : decode cX9_sign 80 = .ok (.aload_n 0, 1) := by decide +kernel
theorem dX9_sign_81 : decode cX9_sign 81 = .ok (.getfield 35, 3) := by decide +kernel
theorem dX9_sign_84 : decode cX9_sign 84 = .ok (.iload_n 2, 1) := by decide +kernel
theorem dX9_sign_85 : decode cX9_sign 85 = .ok (.iaload, 1) := by decide +kernel
theorem dX9_sign_86 : decode cX9_sign 86 = .ok (.invokevirtual 95, 3) := by decide +kernel
theorem dX9_sign_89 : decode cX9_sign 89 = .ok (.aload_n 0, 1) := by decide +kernel
theorem dX9_sign_90 : decode cX9_sign 90 = .ok (.getfield 23, 3) := by decide +kernel
theorem dX9_sign_93 : decode cX9_sign 93 = .ok (.iload_n 2, 1) := by decide +kernel
theorem dX9_sign_94 : decode cX9_sign 94 = .ok (.aload_n 0, 1) := by decide +kernel
theorem dX9_sign_95 : decode cX9_sign 95 = .ok (.getfield 43, 3) := by decide +kernel
theorem dX9_sign_98 : decode cX9_sign 98 = .ok (.lastore, 1) := by decide +kernel
theorem dX9_sign_99 : decode cX9_sign 99 = .ok (.aload_n 0, 1) := by decide +kernel
theorem dX9_sign_100 : decode cX9_sign 100 = .ok (.getfield 26, 3) := by decide +kernel
theorem dX9_sign_103 : decode cX9_sign 103 = .ok (.iload_n 2, 1) := by decide +kernel
theorem dX9_sign_104 : decode cX9_sign 104 = .ok (.aload_n 0, 1) := by decide +kernel
theorem dX9_sign_105 : decode cX9_sign 105 = .ok (.getfield 47, 3) := by decide +kernel
theorem dX9_sign_108 : decode cX9_sign 108 = .ok (.lastore, 1) := by decide +kernel
theorem dX9_sign_109 : decode cX9_sign 109 = .ok (.iinc 2 1, 3) := by decide +kernel
theorem dX9_sign_112 : decode cX9_sign 112 = .ok (.goto (-41), 3) := by decide +kernel
theorem dX9_sign_115 : decode cX9_sign 115 = .ok (.iconst 0, 1) := by decide +kernel
theorem dX9_sign_116 : decode cX9_sign 116 = .ok (.istore_n 2, 1) := by decide +kernel
theorem dX9_sign_117 : decode cX9_sign 117 = .ok (.iload_n 2, 1) := by decide +kernel
theorem dX9_sign_118 : decode cX9_sign 118 = .ok (.aload_n 0, 1) := by decide +kernel
theorem dX9_sign_119 : decode cX9_sign 119 = .ok (.getfield 7, 3) := by decide +kernel
theorem dX9_sign_122 : decode cX9_sign 122 = .ok (.if_icmp .ge 66, 3) := by decide +kernel
theorem dX9_sign_125 : decode cX9_sign 125 = .ok (.iload_n 1, 1) := by decide +kernel
theorem dX9_sign_126 : decode cX9_sign 126 = .ok (.iload_n 2, 1) := by decide +kernel
theorem dX9_sign_127 : decode cX9_sign 127 = .ok (.ishr, 1) := by decide +kernel
theorem dX9_sign_128 : decode cX9_sign 128 = .ok (.istore_n 3, 1) := by decide +kernel
theorem dX9_sign_129 : decode cX9_sign 129 = .ok (.iload_n 2, 1) := by decide +kernel
theorem dX9_sign_130 : decode cX9_sign 130 = .ok (.iload_n 3, 1) := by decide +kernel
theorem dX9_sign_131 : decode cX9_sign 131 = .ok (.iconst 2, 1) := by decide +kernel
theorem dX9_sign_132 : decode cX9_sign 132 = .ok (.irem, 1) := by decide +kernel
theorem dX9_sign_133 : decode cX9_sign 133 = .ok (.ifCond .ne 9, 3) := by decide +kernel
theorem dX9_sign_136 : decode cX9_sign 136 = .ok (.iload_n 3, 1) := by decide +kernel
theorem dX9_sign_137 : decode cX9_sign 137 = .ok (.iconst 1, 1) := by decide +kernel
theorem dX9_sign_138 : decode cX9_sign 138 = .ok (.iadd, 1) := by decide +kernel
theorem dX9_sign_139 : decode cX9_sign 139 = .ok (.goto 6, 3) := by decide +kernel
theorem dX9_sign_142 : decode cX9_sign 142 = .ok (.iload_n 3, 1) := by decide +kernel
theorem dX9_sign_143 : decode cX9_sign 143 = .ok (.iconst 1, 1) := by decide +kernel
theorem dX9_sign_144 : decode cX9_sign 144 = .ok (.isub, 1) := by decide +kernel
theorem dX9_sign_145 : decode cX9_sign 145 = .ok (.invokestatic 107, 3) := by decide +kernel
theorem dX9_sign_148 : decode cX9_sign 148 = .ok (.istore 4, 2) := by decide +kernel
theorem dX9_sign_150 : decode cX9_sign 150 = .ok (.aload_n 0, 1) := by decide +kernel
theorem dX9_sign_151 : decode cX9_sign 151 = .ok (.getfield 23, 3) := by decide +kernel
theorem dX9_sign_154 : decode cX9_sign 154 = .ok (.bipush 35, 2) := by decide +kernel
theorem dX9_sign_156 : decode cX9_sign 156 = .ok (.iload_n 2, 1) := by decide +kernel
theorem dX9_sign_157 : decode cX9_sign 157 = .ok (.iadd, 1) := by decide +kernel
theorem dX9_sign_158 : decode cX9_sign 158 = .ok (.aload_n 0, 1) := by decide +kernel
theorem dX9_sign_159 : decode cX9_sign 159 = .ok (.getfield 13, 3) := by decide +kernel
theorem dX9_sign_162 : decode cX9_sign 162 = .ok (.iload 4, 2) := by decide +kernel
theorem dX9_sign_164 : decode cX9_sign 164 = .ok (.laload, 1) := by decide +kernel
theorem dX9_sign_165 : decode cX9_sign 165 = .ok (.lastore, 1) := by decide +kernel
theorem dX9_sign_166 : decode cX9_sign 166 = .ok (.aload_n 0, 1) := by decide +kernel
theorem dX9_sign_167 : decode cX9_sign 167 = .ok (.getfield 26, 3) := by decide +kernel
theorem dX9_sign_170 : decode cX9_sign 170 = .ok (.bipush 35, 2) := by decide +kernel
theorem dX9_sign_172 : decode cX9_sign 172 = .ok (.iload_n 2, 1) := by decide +kernel
theorem dX9_sign_173 : decode cX9_sign 173 = .ok (.iadd, 1) := by decide +kernel
theorem dX9_sign_174 : decode cX9_sign 174 = .ok (.aload_n 0, 1) := by decide +kernel
theorem dX9_sign_175 : decode cX9_sign 175 = .ok (.getfield 17, 3) := by decide +kernel
theorem dX9_sign_178 : decode cX9_sign 178 = .ok (.iload 4, 2) := by decide +kernel
theorem dX9_sign_180 : decode cX9_sign 180 = .ok (.laload, 1) := by decide +kernel
theorem dX9_sign_181 : decode cX9_sign 181 = .ok (.lastore, 1) := by decide +kernel
theorem dX9_sign_182 : decode cX9_sign 182 = .ok (.iinc 2 1, 3) := by decide +kernel
theorem dX9_sign_185 : decode cX9_sign 185 = .ok (.goto (-68), 3) := by decide +kernel
theorem dX9_sign_188 : decode cX9_sign 188 = .ok (.aload_n 0, 1) := by decide +kernel
theorem dX9_sign_189 : decode cX9_sign 189 = .ok (.iconst 1, 1) := by decide +kernel
theorem dX9_sign_190 : decode cX9_sign 190 = .ok (.putfield 91, 3) := by decide +kernel
theorem dX9_sign_193 : decode cX9_sign 193 = .ok (.aload_n 0, 1) := by decide +kernel
theorem dX9_sign_194 : decode cX9_sign 194 = .ok (.iload_n 1, 1) := by decide +kernel
theorem dX9_sign_195 : decode cX9_sign 195 = .ok (.putfield 128, 3) := by decide +kernel
theorem dX9_sign_198 : decode cX9_sign 198 = .ok (.iload_n 1, 1) := by decide +kernel
theorem dX9_sign_199 : decode cX9_sign 199 = .ok (.ireturn, 1) := by decide +kernel
theorem dX9_leaf_0 : decode cX9_leaf 0 = .ok (.aload_n 0, 1) := by decide +kernel
theorem dX9_leaf_1 : decode cX9_leaf 1 = .ok (.getfield 91, 3) := by decide +kernel
theorem dX9_leaf_4 : decode cX9_leaf 4 = .ok (.ifCond .eq 10, 3) := by decide +kernel
theorem dX9_leaf_7 : decode cX9_leaf 7 = .ok (.aload_n 0, 1) := by decide +kernel
theorem dX9_leaf_8 : decode cX9_leaf 8 = .ok (.getfield 128, 3) := by decide +kernel
theorem dX9_leaf_11 : decode cX9_leaf 11 = .ok (.goto 4, 3) := by decide +kernel
theorem dX9_leaf_14 : decode cX9_leaf 14 = .ok (.iconst (-1), 1) := by decide +kernel
theorem dX9_leaf_15 : decode cX9_leaf 15 = .ok (.ireturn, 1) := by decide +kernel
theorem dX9_isPart_0 : decode cX9_isPart 0 = .ok (.aload_n 0, 1) := by decide +kernel
theorem dX9_isPart_1 : decode cX9_isPart 1 = .ok (.getfield 91, 3) := by decide +kernel
theorem dX9_isPart_4 : decode cX9_isPart 4 = .ok (.ifCond .eq 31, 3) := by decide +kernel
theorem dX9_isPart_7 : decode cX9_isPart 7 = .ok (.iload_n 1, 1) := by decide +kernel
theorem dX9_isPart_8 : decode cX9_isPart 8 = .ok (.ifCond .lt 27, 3) := by decide +kernel
theorem dX9_isPart_11 : decode cX9_isPart 11 = .ok (.iload_n 1, 1) := by decide +kernel
theorem dX9_isPart_12 : decode cX9_isPart 12 = .ok (.bipush 35, 2) := by decide +kernel
theorem dX9_isPart_14 : decode cX9_isPart 14 = .ok (.aload_n 0, 1) := by decide +kernel
theorem dX9_isPart_15 : decode cX9_isPart 15 = .ok (.getfield 7, 3) := by decide +kernel
theorem dX9_isPart_18 : decode cX9_isPart 18 = .ok (.iadd, 1) := by decide +kernel
theorem dX9_isPart_19 : decode cX9_isPart 19 = .ok (.if_icmp .ge 16, 3) := by decide +kernel
theorem dX9_isPart_22 : decode cX9_isPart 22 = .ok (.iload_n 2, 1) := by decide +kernel
theorem dX9_isPart_23 : decode cX9_isPart 23 = .ok (.ifCond .eq 8, 3) := by decide +kernel
theorem dX9_isPart_26 : decode cX9_isPart 26 = .ok (.iload_n 2, 1) := by decide +kernel
theorem dX9_isPart_27 : decode cX9_isPart 27 = .ok (.iconst 1, 1) := by decide +kernel
theorem dX9_isPart_28 : decode cX9_isPart 28 = .ok (.if_icmp .ne 7, 3) := by decide +kernel
theorem dX9_isPart_31 : decode cX9_isPart 31 = .ok (.iconst 1, 1) := by decide +kernel
theorem dX9_isPart_32 : decode cX9_isPart 32 = .ok (.goto 4, 3) := by decide +kernel
theorem dX9_isPart_35 : decode cX9_isPart 35 = .ok (.iconst 0, 1) := by decide +kernel
theorem dX9_isPart_36 : decode cX9_isPart 36 = .ok (.ireturn, 1) := by decide +kernel
set_option maxRecDepth 20000 in
theorem ggX9_part_X9_isPart : GoodIn wsX9_part wsX9_isPart := goodIn_r _ [7, 8, 9, 10, 11, 12, 13, 14, 15, 16, 17, 18, 19, 20, 21, 22, 23, 24, 25, 26, 27, 28, 29, 30] (by decide +kernel) (by decide +kernel)
set_option maxRecDepth 20000 in
theorem gX9_part_X9_isPart : GoodIn wsX9_part (wsV RX9 131 RX9 yX9_isPart wsX9_isPart) := goodIn_app (goodIn_of _ (by decide +kernel)) ggX9_part_X9_isPart
theorem dX9_part_0 : decode cX9_part 0 = .ok (.aload_n 0, 1) := by decide +kernel
theorem dX9_part_1 : decode cX9_part 1 = .ok (.iload_n 1, 1) := by decide +kernel
theorem dX9_part_2 : decode cX9_part 2 = .ok (.iload_n 2, 1) := by decide +kernel
theorem dX9_part_3 : decode cX9_part 3 = .ok (.invokevirtual 131, 3) := by decide +kernel
theorem dX9_part_6 : decode cX9_part 6 = .ok (.ifCond .ne 5, 3) := by decide +kernel
theorem dX9_part_9 : decode cX9_part 9 = .ok (.lconst 0, 1) := by decide +kernel
theorem dX9_part_10 : decode cX9_part 10 = .ok (.lreturn, 1) := by decide +kernel
theorem dX9_part_11 : decode cX9_part 11 = .ok (.iload_n 2, 1) := by decide +kernel
theorem dX9_part_12 : decode cX9_part 12 = .ok (.ifCond .ne 12, 3) := by decide +kernel
theorem dX9_part_15 : decode cX9_part 15 = .ok (.aload_n 0, 1) := by decide +kernel
theorem dX9_part_16 : decode cX9_part 16 = .ok (.getfield 23, 3) := by decide +kernel
theorem dX9_part_19 : decode cX9_part 19 = .ok (.iload_n 1, 1) := by decide +kernel
theorem dX9_part_20 : decode cX9_part 20 = .ok (.laload, 1) := by decide +kernel
theorem dX9_part_21 : decode cX9_part 21 = .ok (.goto 9, 3) := by decide +kernel
theorem dX9_part_24 : decode cX9_part 24 = .ok (.aload_n 0, 1) := by decide +kernel
theorem dX9_part_25 : decode cX9_part 25 = .ok (.getfield 26, 3) := by decide +kernel
theorem dX9_part_28 : decode cX9_part 28 = .ok (.iload_n 1, 1) := by decide +kernel
theorem dX9_part_29 : decode cX9_part 29 = .ok (.laload, 1) := by decide +kernel
theorem dX9_part_30 : decode cX9_part 30 = .ok (.lreturn, 1) := by decide +kernel
theorem dX9_setLeaf_0 : decode cX9_setLeaf 0 = .ok (.aload_n 0, 1) := by decide +kernel
theorem dX9_setLeaf_1 : decode cX9_setLeaf 1 = .ok (.getfield 91, 3) := by decide +kernel
theorem dX9_setLeaf_4 : decode cX9_setLeaf 4 = .ok (.ifCond .eq 7, 3) := by decide +kernel
theorem dX9_setLeaf_7 : decode cX9_setLeaf 7 = .ok (.iload_n 1, 1) := by decide +kernel
theorem dX9_setLeaf_8 : decode cX9_setLeaf 8 = .ok (.ifCond .ge 5, 3) := by decide +kernel
theorem dX9_setLeaf_11 : decode cX9_setLeaf 11 = .ok (.iconst 0, 1) := by decide +kernel
theorem dX9_setLeaf_12 : decode cX9_setLeaf 12 = .ok (.ireturn, 1) := by decide +kernel
theorem dX9_setLeaf_13 : decode cX9_setLeaf 13 = .ok (.aload_n 0, 1) := by decide +kernel
theorem dX9_setLeaf_14 : decode cX9_setLeaf 14 = .ok (.iload_n 1, 1) := by decide +kernel
theorem dX9_setLeaf_15 : decode cX9_setLeaf 15 = .ok (.putfield 128, 3) := by decide +kernel
theorem dX9_setLeaf_18 : decode cX9_setLeaf 18 = .ok (.iconst 1, 1) := by decide +kernel
theorem dX9_setLeaf_19 : decode cX9_setLeaf 19 = .ok (.ireturn, 1) := by decide +kernel
set_option maxRecDepth 20000 in
theorem ggX9_setPart_X9_isPart : GoodIn wsX9_setPart wsX9_isPart := goodIn_r _ [7, 8, 9, 10, 11, 12, 13, 14, 15, 16, 17, 18, 19, 20, 21, 22, 23, 24, 25, 26, 27, 28, 29, 30] (by decide +kernel) (by decide +kernel)
set_option maxRecDepth 20000 in
theorem gX9_setPart_X9_isPart : GoodIn wsX9_setPart (wsV RX9 131 RX9 yX9_isPart wsX9_isPart) := goodIn_app (goodIn_of _ (by decide +kernel)) ggX9_setPart_X9_isPart
theorem dX9_setPart_0 : decode cX9_setPart 0 = .ok (.aload_n 0, 1) := by decide +kernel
theorem dX9_setPart_1 : decode cX9_setPart 1 = .ok (.iload_n 1, 1) := by decide +kernel
theorem dX9_setPart_2 : decode cX9_setPart 2 = .ok (.iload_n 2, 1) := by decide +kernel
theorem dX9_setPart_3 : decode cX9_setPart 3 = .ok (.invokevirtual 131, 3) := by decide +kernel
theorem dX9_setPart_6 : decode cX9_setPart 6 = .ok (.ifCond .ne 5, 3) := by decide +kernel
theorem dX9_setPart_9 : decode cX9_setPart 9 = .ok (.iconst 0, 1) := by decide +kernel
theorem dX9_setPart_10 : decode cX9_setPart 10 = .ok (.ireturn, 1) := by decide +kernel
theorem dX9_setPart_11 : decode cX9_setPart 11 = .ok (.iload_n 2, 1) := by decide +kernel
theorem dX9_setPart_12 : decode cX9_setPart 12 = .ok (.ifCond .ne 13, 3) := by decide +kernel
theorem dX9_setPart_15 : decode cX9_setPart 15 = .ok (.aload_n 0, 1) := by decide +kernel
theorem dX9_setPart_16 : decode cX9_setPart 16 = .ok (.getfield 23, 3) := by decide +kernel
theorem dX9_setPart_19 : decode cX9_setPart 19 = .ok (.iload_n 1, 1) := by decide +kernel
theorem dX9_setPart_20 : decode cX9_setPart 20 = .ok (.lload_n 3, 1) := by decide +kernel
theorem dX9_setPart_21 : decode cX9_setPart 21 = .ok (.lastore, 1) := by decide +kernel
theorem dX9_setPart_22 : decode cX9_setPart 22 = .ok (.goto 10, 3) := by decide +kernel
theorem dX9_setPart_25 : decode cX9_setPart 25 = .ok (.aload_n 0, 1) := by decide +kernel
theorem dX9_setPart_26 : decode cX9_setPart 26 = .ok (.getfield 26, 3) := by decide +kernel
theorem dX9_setPart_29 : decode cX9_setPart 29 = .ok (.iload_n 1, 1) := by decide +kernel
theorem dX9_setPart_30 : decode cX9_setPart 30 = .ok (.lload_n 3, 1) := by decide +kernel
theorem dX9_setPart_31 : decode cX9_setPart 31 = .ok (.lastore, 1) := by decide +kernel
theorem dX9_setPart_32 : decode cX9_setPart 32 = .ok (.iconst 1, 1) := by decide +kernel
theorem dX9_setPart_33 : decode cX9_setPart 33 = .ok (.ireturn, 1) := by decide +kernel
theorem dX9_tell_0 : decode cX9_tell 0 = .ok (.iload_n 1, 1) := by decide +kernel
theorem dX9_tell_1 : decode cX9_tell 1 = .ok (.ifCond .ne 11, 3) := by decide +kernel
theorem dX9_tell_4 : decode cX9_tell 4 = .ok (.aload_n 0, 1) := by decide +kernel
theorem dX9_tell_5 : decode cX9_tell 5 = .ok (.lload_n 2, 1) := by decide +kernel
theorem dX9_tell_6 : decode cX9_tell 6 = .ok (.putfield 134, 3) := by decide +kernel
theorem dX9_tell_9 : decode cX9_tell 9 = .ok (.goto 13, 3) := by decide +kernel
theorem dX9_tell_12 : decode cX9_tell 12 = .ok (.iload_n 1, 1) := by decide +kernel
theorem dX9_tell_13 : decode cX9_tell 13 = .ok (.iconst 1, 1) := by decide +kernel
theorem dX9_tell_14 : decode cX9_tell 14 = .ok (.if_icmp .ne 8, 3) := by decide +kernel
theorem dX9_tell_17 : decode cX9_tell 17 = .ok (.aload_n 0, 1) := by decide +kernel
theorem dX9_tell_18 : decode cX9_tell 18 = .ok (.lload_n 2, 1) := by decide +kernel
theorem dX9_tell_19 : decode cX9_tell 19 = .ok (.putfield 137, 3) := by decide +kernel
theorem dX9_tell_22 : decode cX9_tell 22 = .ok (.iload_n 1, 1) := by decide +kernel
theorem dX9_tell_23 : decode cX9_tell 23 = .ok (.ifCond .eq 8, 3) := by decide +kernel
theorem dX9_tell_26 : decode cX9_tell 26 = .ok (.iload_n 1, 1) := by decide +kernel
theorem dX9_tell_27 : decode cX9_tell 27 = .ok (.iconst 1, 1) := by decide +kernel
theorem dX9_tell_28 : decode cX9_tell 28 = .ok (.if_icmp .ne 7, 3) := by decide +kernel
theorem dX9_tell_31 : decode cX9_tell 31 = .ok (.iconst 1, 1) := by decide +kernel
theorem dX9_tell_32 : decode cX9_tell 32 = .ok (.goto 4, 3) := by decide +kernel
theorem dX9_tell_35 : decode cX9_tell 35 = .ok (.iconst 0, 1) := by decide +kernel
theorem dX9_tell_36 : decode cX9_tell 36 = .ok (.ireturn, 1) := by decide +kernel
set_option maxRecDepth 20000 in
theorem ggX9_verify_X9_leaves : GoodIn wsX9_verify wsX9_leaves := goodIn_r _ [17, 12, 54, 55, 56, 57, 58, 59, 60, 61, 62, 63, 64, 65, 66, 67, 68, 69, 70, 71, 72, 73, 74] (by decide +kernel) (by decide +kernel)
set_option maxRecDepth 20000 in
theorem gX9_verify_X9_leaves : GoodIn wsX9_verify (wsV RX9 81 RX9 yX9_leaves wsX9_leaves) := goodIn_app (goodIn_of _ (by decide +kernel)) ggX9_verify_X9_leaves
set_option maxRecDepth 20000 in
theorem ggX9_verify_X9_findDigits : GoodIn wsX9_verify wsX9_findDigits := goodIn_r _ [21, 22, 23, 24, 25, 6, 8, 9, 26, 27, 28, 16, 29, 30, 31, 32, 33, 34, 35, 36, 37, 38, 54, 55, 56, 57, 58, 59, 60, 61, 62, 63, 64, 65, 66, 67, 68, 69, 70, 71, 72, 73, 74] (by decide +kernel) (by decide +kernel)
set_option maxRecDepth 20000 in
theorem gX9_verify_X9_findDigits : GoodIn wsX9_verify (wsV RX9 124 RX9 yX9_findDigits wsX9_findDigits) := goodIn_app (goodIn_of _ (by decide +kernel)) ggX9_verify_X9_findDigits
set_option maxRecDepth 20000 in
theorem ggX9_verify_X9_carry : GoodIn wsX9_verify wsX9_carry := goodIn_r _ [42, 6, 8, 43, 24, 26, 27, 28, 16, 29, 30, 31, 32, 33, 34, 35, 36, 37, 38, 54, 55, 56, 57, 58, 59, 60, 61, 62, 63, 64, 65, 66, 67, 68, 69, 70, 71, 72, 73, 74] (by decide +kernel) (by decide +kernel)
set_option maxRecDepth 20000 in
theorem gX9_verify_X9_carry : GoodIn wsX9_verify (wsV RX9 73 RX9 yX9_carry wsX9_carry) := goodIn_app (goodIn_of _ (by decide +kernel)) ggX9_verify_X9_carry
set_option maxRecDepth 20000 in
theorem ggX9_verify_X9_gather : GoodIn wsX9_verify wsX9_gather := goodIn_r _ [47, 48, 24, 10, 11, 26, 27, 28, 16, 29, 6, 8, 30, 31, 32, 33, 34, 35, 36, 37, 38, 54, 55, 56, 57, 58, 59, 60, 61, 62, 63, 64, 65, 66, 67, 68, 69, 70, 71, 72, 73, 74] (by decide +kernel) (by decide +kernel)
set_option maxRecDepth 20000 in
theorem gX9_verify_X9_gather : GoodIn wsX9_verify (wsV RX9 99 RX9 yX9_gather wsX9_gather) := goodIn_app (goodIn_of _ (by decide +kernel)) ggX9_verify_X9_gather
set_option maxRecDepth 20000 in
theorem ggX9_verify_X9_join : GoodIn wsX9_verify wsX9_join := goodIn_r _ [52, 53, 24, 26, 27, 28, 16, 29, 6, 8, 30, 31, 32, 33, 34, 35, 36, 37, 38, 54, 55, 56, 57, 58, 59, 60, 61, 62, 63, 64, 65, 66, 67, 68, 69, 70, 71, 72, 73, 74] (by decide +kernel) (by decide +kernel)
set_option maxRecDepth 20000 in
theorem gX9_verify_X9_join : GoodIn wsX9_verify (wsV RX9 111 RX9 yX9_join wsX9_join) := goodIn_app (goodIn_of _ (by decide +kernel)) ggX9_verify_X9_join
theorem dX9_verify_0 : decode cX9_verify 0 = .ok (.aload_n 0, 1) := by decide +kernel
theorem dX9_verify_1 : decode cX9_verify 1 = .ok (.getfield 91, 3) := by decide +kernel
theorem dX9_verify_4 : decode cX9_verify 4 = .ok (.ifCond .ne 5, 3) := by decide +kernel
theorem dX9_verify_7 : decode cX9_verify 7 = .ok (.iconst (-1), 1) := by decide +kernel
theorem dX9_verify_8 : decode cX9_verify 8 = .ok (.ireturn, 1) := by decide +kernel
theorem dX9_verify_9 : decode cX9_verify 9 = .ok (.aload_n 0, 1) := by decide +kernel
theorem dX9_verify_10 : decode cX9_verify 10 = .ok (.getfield 128, 3) := by decide +kernel
theorem dX9_verify_13 : decode cX9_verify 13 = .ok (.aload_n 0, 1) := by decide +kernel
theorem dX9_verify_14 : decode cX9_verify 14 = .ok (.invokevirtual 81, 3) := by decide +kernel
theorem dX9_verify_17 : decode cX9_verify 17 = .ok (.if_icmp .lt 5, 3) := by decide +kernel
theorem dX9_verify_20 : decode cX9_verify 20 = .ok (.iconst 1, 1) := by decide +kernel
theorem dX9_verify_21 : decode cX9_verify 21 = .ok (.ireturn, 1) := by decide +kernel
theorem dX9_verify_22 : decode cX9_verify 22 = .ok (.aload_n 0, 1) := by decide +kernel
theorem dX9_verify_23 : decode cX9_verify 23 = .ok (.aload_n 0, 1) := by decide +kernel
theorem dX9_verify_24 : decode cX9_verify 24 = .ok (.getfield 128, 3) := by decide +kernel
theorem dX9_verify_27 : decode cX9_verify 27 = .ok (.aload_n 0, 1) := by decide +kernel
theorem dX9_verify_28 : decode cX9_verify 28 = .ok (.getfield 134, 3) := by decide +kernel
theorem dX9_verify_31 : decode cX9_verify 31 = .ok (.aload_n 0, 1) := by decide +kernel
theorem dX9_verify_32 : decode cX9_verify 32 = .ok (.getfield 137, 3) := by decide +kernel
theorem dX9_verify_35 : decode cX9_verify 35 = .ok (.invokevirtual 124, 3) := by decide +kernel
theorem dX9_verify_38 : decode cX9_verify 38 = .ok (.iconst 0, 1) := by decide +kernel
theorem dX9_verify_39 : decode cX9_verify 39 = .ok (.istore_n 1, 1) := by decide +kernel
theorem dX9_verify_40 : decode cX9_verify 40 = .ok (.iload_n 1, 1) := by decide +kernel
theorem dX9_verify_41 : decode cX9_verify 41 = .ok (.bipush 35, 2) := by decide +kernel
theorem dX9_verify_43 : decode cX9_verify 43 = .ok (.if_icmp .ge 66, 3) := by decide +kernel
theorem dX9_verify_46 : decode cX9_verify 46 = .ok (.aload_n 0, 1) := by decide +kernel
theorem dX9_verify_47 : decode cX9_verify 47 = .ok (.aload_n 0, 1) := by decide +kernel
theorem dX9_verify_48 : decode cX9_verify 48 = .ok (.getfield 23, 3) := by decide +kernel
theorem dX9_verify_51 : decode cX9_verify 51 = .ok (.iload_n 1, 1) := by decide +kernel
theorem dX9_verify_52 : decode cX9_verify 52 = .ok (.laload, 1) := by decide +kernel
theorem dX9_verify_53 : decode cX9_verify 53 = .ok (.putfield 43, 3) := by decide +kernel
theorem dX9_verify_56 : decode cX9_verify 56 = .ok (.aload_n 0, 1) := by decide +kernel
theorem dX9_verify_57 : decode cX9_verify 57 = .ok (.aload_n 0, 1) := by decide +kernel
theorem dX9_verify_58 : decode cX9_verify 58 = .ok (.getfield 26, 3) := by decide +kernel
theorem dX9_verify_61 : decode cX9_verify 61 = .ok (.iload_n 1, 1) := by decide +kernel
theorem dX9_verify_62 : decode cX9_verify 62 = .ok (.laload, 1) := by decide +kernel
theorem dX9_verify_63 : decode cX9_verify 63 = .ok (.putfield 47, 3) := by decide +kernel
theorem dX9_verify_66 : decode cX9_verify 66 = .ok (.aload_n 0, 1) := by decide +kernel
theorem dX9_verify_67 : decode cX9_verify 67 = .ok (.aload_n 0, 1) := by decide +kernel
theorem dX9_verify_68 : decode cX9_verify 68 = .ok (.getfield 128, 3) := by decide +kernel
theorem dX9_verify_71 : decode cX9_verify 71 = .ok (.iload_n 1, 1) := by decide +kernel
theorem dX9_verify_72 : decode cX9_verify 72 = .ok (.aload_n 0, 1) := by decide +kernel
theorem dX9_verify_73 : decode cX9_verify 73 = .ok (.getfield 35, 3) := by decide +kernel
theorem dX9_verify_76 : decode cX9_verify 76 = .ok (.iload_n 1, 1) := by decide +kernel
theorem dX9_verify_77 : decode cX9_verify 77 = .ok (.iaload, 1) := by decide +kernel
theorem dX9_verify_78 : decode cX9_verify 78 = .ok (.bipush 15, 2) := by decide +kernel
theorem dX9_verify_80 : decode cX9_verify 80 = .ok (.invokevirtual 73, 3) := by decide +kernel
theorem dX9_verify_83 : decode cX9_verify 83 = .ok (.aload_n 0, 1) := by decide +kernel
theorem dX9_verify_84 : decode cX9_verify 84 = .ok (.getfield 29, 3) := by decide +kernel
theorem dX9_verify_87 : decode cX9_verify 87 = .ok (.iload_n 1, 1) := by decide +kernel
theorem dX9_verify_88 : decode cX9_verify 88 = .ok (.aload_n 0, 1) := by decide +kernel
theorem dX9_verify_89 : decode cX9_verify 89 = .ok (.getfield 43, 3) := by decide +kernel
theorem dX9_verify_92 : decode cX9_verify 92 = .ok (.lastore, 1) := by decide +kernel
theorem dX9_verify_93 : decode cX9_verify 93 = .ok (.aload_n 0, 1) := by decide +kernel
theorem dX9_verify_94 : decode cX9_verify 94 = .ok (.getfield 32, 3) := by decide +kernel
theorem dX9_verify_97 : decode cX9_verify 97 = .ok (.iload_n 1, 1) := by decide +kernel
theorem dX9_verify_98 : decode cX9_verify 98 = .ok (.aload_n 0, 1) := by decide +kernel
theorem dX9_verify_99 : decode cX9_verify 99 = .ok (.getfield 47, 3) := by decide +kernel
theorem dX9_verify_102 : decode cX9_verify 102 = .ok (.lastore, 1) := by decide +kernel
theorem dX9_verify_103 : decode cX9_verify 103 = .ok (.iinc 1 1, 3) := by decide +kernel
theorem dX9_verify_106 : decode cX9_verify 106 = .ok (.goto (-66), 3) := by decide +kernel
theorem dX9_verify_109 : decode cX9_verify 109 = .ok (.aload_n 0, 1) := by decide +kernel
theorem dX9_verify_110 : decode cX9_verify 110 = .ok (.aload_n 0, 1) := by decide +kernel
theorem dX9_verify_111 : decode cX9_verify 111 = .ok (.getfield 128, 3) := by decide +kernel
theorem dX9_verify_114 : decode cX9_verify 114 = .ok (.invokevirtual 99, 3) := by decide +kernel
theorem dX9_verify_117 : decode cX9_verify 117 = .ok (.iconst 1, 1) := by decide +kernel
theorem dX9_verify_118 : decode cX9_verify 118 = .ok (.istore_n 1, 1) := by decide +kernel
theorem dX9_verify_119 : decode cX9_verify 119 = .ok (.iload_n 1, 1) := by decide +kernel
theorem dX9_verify_120 : decode cX9_verify 120 = .ok (.aload_n 0, 1) := by decide +kernel
theorem dX9_verify_121 : decode cX9_verify 121 = .ok (.getfield 7, 3) := by decide +kernel
theorem dX9_verify_124 : decode cX9_verify 124 = .ok (.if_icmp .gt 123, 3) := by decide +kernel
theorem dX9_verify_127 : decode cX9_verify 127 = .ok (.aload_n 0, 1) := by decide +kernel
theorem dX9_verify_128 : decode cX9_verify 128 = .ok (.getfield 43, 3) := by decide +kernel
theorem dX9_verify_131 : decode cX9_verify 131 = .ok (.lstore_n 2, 1) := by decide +kernel
theorem dX9_verify_132 : decode cX9_verify 132 = .ok (.aload_n 0, 1) := by decide +kernel
theorem dX9_verify_133 : decode cX9_verify 133 = .ok (.getfield 47, 3) := by decide +kernel
theorem dX9_verify_136 : decode cX9_verify 136 = .ok (.lstore 4, 2) := by decide +kernel
theorem dX9_verify_138 : decode cX9_verify 138 = .ok (.aload_n 0, 1) := by decide +kernel
theorem dX9_verify_139 : decode cX9_verify 139 = .ok (.getfield 23, 3) := by decide +kernel
theorem dX9_verify_142 : decode cX9_verify 142 = .ok (.bipush 35, 2) := by decide +kernel
theorem dX9_verify_144 : decode cX9_verify 144 = .ok (.iload_n 1, 1) := by decide +kernel
theorem dX9_verify_145 : decode cX9_verify 145 = .ok (.iadd, 1) := by decide +kernel
theorem dX9_verify_146 : decode cX9_verify 146 = .ok (.iconst 1, 1) := by decide +kernel
theorem dX9_verify_147 : decode cX9_verify 147 = .ok (.isub, 1) := by decide +kernel
theorem dX9_verify_148 : decode cX9_verify 148 = .ok (.laload, 1) := by decide +kernel
theorem dX9_verify_149 : decode cX9_verify 149 = .ok (.lstore 6, 2) := by decide +kernel
theorem dX9_verify_151 : decode cX9_verify 151 = .ok (.aload_n 0, 1) := by decide +kernel
theorem dX9_verify_152 : decode cX9_verify 152 = .ok (.getfield 26, 3) := by decide +kernel
theorem dX9_verify_155 : decode cX9_verify 155 = .ok (.bipush 35, 2) := by decide +kernel
theorem dX9_verify_157 : decode cX9_verify 157 = .ok (.iload_n 1, 1) := by decide +kernel
theorem dX9_verify_158 : decode cX9_verify 158 = .ok (.iadd, 1) := by decide +kernel
theorem dX9_verify_159 : decode cX9_verify 159 = .ok (.iconst 1, 1) := by decide +kernel
theorem dX9_verify_160 : decode cX9_verify 160 = .ok (.isub, 1) := by decide +kernel
theorem dX9_verify_161 : decode cX9_verify 161 = .ok (.laload, 1) := by decide +kernel
theorem dX9_verify_162 : decode cX9_verify 162 = .ok (.lstore 8, 2) := by decide +kernel
theorem dX9_verify_164 : decode cX9_verify 164 = .ok (.aload_n 0, 1) := by decide +kernel
theorem dX9_verify_165 : decode cX9_verify 165 = .ok (.getfield 128, 3) := by decide +kernel
theorem dX9_verify_168 : decode cX9_verify 168 = .ok (.iload_n 1, 1) := by decide +kernel
theorem dX9_verify_169 : decode cX9_verify 169 = .ok (.iconst 1, 1) := by decide +kernel
theorem dX9_verify_170 : decode cX9_verify 170 = .ok (.isub, 1) := by decide +kernel
theorem dX9_verify_171 : decode cX9_verify 171 = .ok (.ishr, 1) := by decide +kernel
theorem dX9_verify_172 : decode cX9_verify 172 = .ok (.iconst 2, 1) := by decide +kernel
theorem dX9_verify_173 : decode cX9_verify 173 = .ok (.irem, 1) := by decide +kernel
theorem dX9_verify_174 : decode cX9_verify 174 = .ok (.ifCond .ne 7, 3) := by decide +kernel
theorem dX9_verify_177 : decode cX9_verify 177 = .ok (.iconst 1, 1) := by decide +kernel
theorem dX9_verify_178 : decode cX9_verify 178 = .ok (.goto 4, 3) := by decide +kernel
theorem dX9_verify_181 : decode cX9_verify 181 = .ok (.iconst 0, 1) := by decide +kernel
theorem dX9_verify_182 : decode cX9_verify 182 = .ok (.istore 10, 2) := by decide +kernel
theorem dX9_verify_184 : decode cX9_verify 184 = .ok (.aload_n 0, 1) := by decide +kernel
theorem dX9_verify_185 : decode cX9_verify 185 = .ok (.iload_n 1, 1) := by decide +kernel
theorem dX9_verify_186 : decode cX9_verify 186 = .ok (.aload_n 0, 1) := by decide +kernel
theorem dX9_verify_187 : decode cX9_verify 187 = .ok (.getfield 128, 3) := by decide +kernel
theorem dX9_verify_190 : decode cX9_verify 190 = .ok (.iload_n 1, 1) := by decide +kernel
theorem dX9_verify_191 : decode cX9_verify 191 = .ok (.ishr, 1) := by decide +kernel
theorem dX9_verify_192 : decode cX9_verify 192 = .ok (.iload 10, 2) := by decide +kernel
theorem dX9_verify_194 : decode cX9_verify 194 = .ok (.ifCond .eq 7, 3) := by decide +kernel
theorem dX9_verify_197 : decode cX9_verify 197 = .ok (.lload_n 2, 1) := by decide +kernel
theorem dX9_verify_198 : decode cX9_verify 198 = .ok (.goto 5, 3) := by decide +kernel
theorem dX9_verify_201 : decode cX9_verify 201 = .ok (.lload 6, 2) := by decide +kernel
theorem dX9_verify_203 : decode cX9_verify 203 = .ok (.iload 10, 2) := by decide +kernel
theorem dX9_verify_205 : decode cX9_verify 205 = .ok (.ifCond .eq 8, 3) := by decide +kernel
theorem dX9_verify_208 : decode cX9_verify 208 = .ok (.lload 4, 2) := by decide +kernel
theorem dX9_verify_210 : decode cX9_verify 210 = .ok (.goto 5, 3) := by decide +kernel
theorem dX9_verify_213 : decode cX9_verify 213 = .ok (.lload 8, 2) := by decide +kernel
theorem dX9_verify_215 : decode cX9_verify 215 = .ok (.iload 10, 2) := by decide +kernel
theorem dX9_verify_217 : decode cX9_verify 217 = .ok (.ifCond .eq 8, 3) := by decide +kernel
theorem dX9_verify_220 : decode cX9_verify 220 = .ok (.lload 6, 2) := by decide +kernel
theorem dX9_verify_222 : decode cX9_verify 222 = .ok (.goto 4, 3) := by decide +kernel
theorem dX9_verify_225 : decode cX9_verify 225 = .ok (.lload_n 2, 1) := by decide +kernel
theorem dX9_verify_226 : decode cX9_verify 226 = .ok (.iload 10, 2) := by decide +kernel
theorem dX9_verify_228 : decode cX9_verify 228 = .ok (.ifCond .eq 8, 3) := by decide +kernel
theorem dX9_verify_231 : decode cX9_verify 231 = .ok (.lload 8, 2) := by decide +kernel
theorem dX9_verify_233 : decode cX9_verify 233 = .ok (.goto 5, 3) := by decide +kernel
theorem dX9_verify_236 : decode cX9_verify 236 = .ok (.lload 4, 2) := by decide +kernel
theorem dX9_verify_238 : decode cX9_verify 238 = .ok (.invokevirtual 111, 3) := by decide +kernel
theorem dX9_verify_241 : decode cX9_verify 241 = .ok (.iinc 1 1, 3) := by decide +kernel
theorem dX9_verify_244 : decode cX9_verify 244 = .ok (.goto (-125), 3) := by decide +kernel
theorem dX9_verify_247 : decode cX9_verify 247 = .ok (.aload_n 0, 1) := by decide +kernel
theorem dX9_verify_248 : decode cX9_verify 248 = .ok (.getfield 43, 3) := by decide +kernel
theorem dX9_verify_251 : decode cX9_verify 251 = .ok (.aload_n 0, 1) := by decide +kernel
theorem dX9_verify_252 : decode cX9_verify 252 = .ok (.getfield 134, 3) := by decide +kernel
theorem dX9_verify_255 : decode cX9_verify 255 = .ok (.lcmp, 1) := by decide +kernel
theorem dX9_verify_256 : decode cX9_verify 256 = .ok (.ifCond .ne 19, 3) := by decide +kernel
theorem dX9_verify_259 : decode cX9_verify 259 = .ok (.aload_n 0, 1) := by decide +kernel
theorem dX9_verify_260 : decode cX9_verify 260 = .ok (.getfield 47, 3) := by decide +kernel
theorem dX9_verify_263 : decode cX9_verify 263 = .ok (.aload_n 0, 1) := by decide +kernel
theorem dX9_verify_264 : decode cX9_verify 264 = .ok (.getfield 137, 3) := by decide +kernel
theorem dX9_verify_267 : decode cX9_verify 267 = .ok (.lcmp, 1) := by decide +kernel
theorem dX9_verify_268 : decode cX9_verify 268 = .ok (.ifCond .ne 7, 3) := by decide +kernel
theorem dX9_verify_271 : decode cX9_verify 271 = .ok (.iconst 0, 1) := by decide +kernel
theorem dX9_verify_272 : decode cX9_verify 272 = .ok (.goto 4, 3) := by decide +kernel
theorem dX9_verify_275 : decode cX9_verify 275 = .ok (.iconst 2, 1) := by decide +kernel
theorem dX9_verify_276 : decode cX9_verify 276 = .ok (.ireturn, 1) := by decide +kernel
set_option maxRecDepth 20000 in
theorem ggX9_hash_X9_take : GoodIn wsX9_hash wsX9_take := goodIn_r _ [9, 3, 4, 19, 20, 21, 22, 23, 24, 25, 26, 27, 28, 29, 30, 31, 32, 33, 34, 35, 36, 37, 38, 39] (by decide +kernel) (by decide +kernel)
set_option maxRecDepth 20000 in
theorem gX9_hash_X9_take : GoodIn wsX9_hash (wsV RX9 56 RX9 yX9_take wsX9_take) := goodIn_app (goodIn_of _ (by decide +kernel)) ggX9_hash_X9_take
set_option maxRecDepth 20000 in
theorem ggX9_hash_X9_put : GoodIn wsX9_hash wsX9_put := goodIn_r _ [13, 3, 4, 14, 15, 8, 16, 17, 18, 19, 20, 21, 22, 23, 24, 25, 26, 27, 28, 29, 30, 31, 32, 33, 34, 35, 36, 37, 38, 39] (by decide +kernel) (by decide +kernel)
set_option maxRecDepth 20000 in
theorem gX9_hash_X9_put : GoodIn wsX9_hash (wsV RX9 63 RX9 yX9_put wsX9_put) := goodIn_app (goodIn_of _ (by decide +kernel)) ggX9_hash_X9_put
theorem dX9_hash_0 : decode cX9_hash 0 = .ok (.aload_n 0, 1) := by decide +kernel
theorem dX9_hash_1 : decode cX9_hash 1 = .ok (.iload_n 1, 1) := by decide +kernel
theorem dX9_hash_2 : decode cX9_hash 2 = .ok (.i2l, 1) := by decide +kernel
theorem dX9_hash_3 : decode cX9_hash 3 = .ok (.aload_n 0, 1) := by decide +kernel
theorem dX9_hash_4 : decode cX9_hash 4 = .ok (.getfield 115, 3) := by decide +kernel
theorem dX9_hash_7 : decode cX9_hash 7 = .ok (.invokevirtual 56, 3) := by decide +kernel
theorem dX9_hash_10 : decode cX9_hash 10 = .ok (.iconst 0, 1) := by decide +kernel
theorem dX9_hash_11 : decode cX9_hash 11 = .ok (.istore_n 3, 1) := by decide +kernel
theorem dX9_hash_12 : decode cX9_hash 12 = .ok (.iload_n 3, 1) := by decide +kernel
theorem dX9_hash_13 : decode cX9_hash 13 = .ok (.aload_n 0, 1) := by decide +kernel
theorem dX9_hash_14 : decode cX9_hash 14 = .ok (.getfield 115, 3) := by decide +kernel
theorem dX9_hash_17 : decode cX9_hash 17 = .ok (.if_icmp .ge 19, 3) := by decide +kernel
theorem dX9_hash_20 : decode cX9_hash 20 = .ok (.aload_n 0, 1) := by decide +kernel
theorem dX9_hash_21 : decode cX9_hash 21 = .ok (.aload_n 0, 1) := by decide +kernel
theorem dX9_hash_22 : decode cX9_hash 22 = .ok (.getfield 20, 3) := by decide +kernel
theorem dX9_hash_25 : decode cX9_hash 25 = .ok (.iload_n 3, 1) := by decide +kernel
theorem dX9_hash_26 : decode cX9_hash 26 = .ok (.laload, 1) := by decide +kernel
theorem dX9_hash_27 : decode cX9_hash 27 = .ok (.invokevirtual 63, 3) := by decide +kernel
theorem dX9_hash_30 : decode cX9_hash 30 = .ok (.iinc 3 1, 3) := by decide +kernel
theorem dX9_hash_33 : decode cX9_hash 33 = .ok (.goto (-21), 3) := by decide +kernel
theorem dX9_hash_36 : decode cX9_hash 36 = .ok (.iload_n 2, 1) := by decide +kernel
theorem dX9_hash_37 : decode cX9_hash 37 = .ok (.ifCond .ne 10, 3) := by decide +kernel
theorem dX9_hash_40 : decode cX9_hash 40 = .ok (.aload_n 0, 1) := by decide +kernel
theorem dX9_hash_41 : decode cX9_hash 41 = .ok (.getfield 43, 3) := by decide +kernel
theorem dX9_hash_44 : decode cX9_hash 44 = .ok (.goto 16, 3) := by decide +kernel
theorem dX9_hash_47 : decode cX9_hash 47 = .ok (.iload_n 2, 1) := by decide +kernel
theorem dX9_hash_48 : decode cX9_hash 48 = .ok (.iconst 1, 1) := by decide +kernel
theorem dX9_hash_49 : decode cX9_hash 49 = .ok (.if_icmp .ne 10, 3) := by decide +kernel
theorem dX9_hash_52 : decode cX9_hash 52 = .ok (.aload_n 0, 1) := by decide +kernel
theorem dX9_hash_53 : decode cX9_hash 53 = .ok (.getfield 47, 3) := by decide +kernel
theorem dX9_hash_56 : decode cX9_hash 56 = .ok (.goto 4, 3) := by decide +kernel
theorem dX9_hash_59 : decode cX9_hash 59 = .ok (.lconst 0, 1) := by decide +kernel
theorem dX9_hash_60 : decode cX9_hash 60 = .ok (.lreturn, 1) := by decide +kernel
set_option maxRecDepth 20000 in
theorem ggX9_count_X9_leaves : GoodIn wsX9_count wsX9_leaves := goodIn_r _ [10, 5, 11, 12, 13, 14, 15, 16, 17, 18, 19, 20, 21, 22, 23, 24, 25, 26, 27, 28, 29, 30, 31] (by decide +kernel) (by decide +kernel)
set_option maxRecDepth 20000 in
theorem gX9_count_X9_leaves : GoodIn wsX9_count (wsV RX9 81 RX9 yX9_leaves wsX9_leaves) := goodIn_app (goodIn_of _ (by decide +kernel)) ggX9_count_X9_leaves
theorem dX9_count_0 : decode cX9_count 0 = .ok (.iload_n 1, 1) := by decide +kernel
theorem dX9_count_1 : decode cX9_count 1 = .ok (.tableswitch 74 0 4 #[35, 40, 45, 50, 55], 35) := by decide +kernel
theorem dX9_count_36 : decode cX9_count 36 = .ok (.aload_n 0, 1) := by decide +kernel
theorem dX9_count_37 : decode cX9_count 37 = .ok (.invokevirtual 81, 3) := by decide +kernel
theorem dX9_count_40 : decode cX9_count 40 = .ok (.ireturn, 1) := by decide +kernel
theorem dX9_count_41 : decode cX9_count 41 = .ok (.aload_n 0, 1) := by decide +kernel
theorem dX9_count_42 : decode cX9_count 42 = .ok (.getfield 85, 3) := by decide +kernel
theorem dX9_count_45 : decode cX9_count 45 = .ok (.ireturn, 1) := by decide +kernel
theorem dX9_count_46 : decode cX9_count 46 = .ok (.aload_n 0, 1) := by decide +kernel
theorem dX9_count_47 : decode cX9_count 47 = .ok (.getfield 88, 3) := by decide +kernel
theorem dX9_count_50 : decode cX9_count 50 = .ok (.ireturn, 1) := by decide +kernel
theorem dX9_count_51 : decode cX9_count 51 = .ok (.aload_n 0, 1) := by decide +kernel
theorem dX9_count_52 : decode cX9_count 52 = .ok (.getfield 115, 3) := by decide +kernel
theorem dX9_count_55 : decode cX9_count 55 = .ok (.ireturn, 1) := by decide +kernel
theorem dX9_count_56 : decode cX9_count 56 = .ok (.aload_n 0, 1) := by decide +kernel
theorem dX9_count_57 : decode cX9_count 57 = .ok (.getfield 91, 3) := by decide +kernel
theorem dX9_count_60 : decode cX9_count 60 = .ok (.ifCond .eq 13, 3) := by decide +kernel
theorem dX9_count_63 : decode cX9_count 63 = .ok (.bipush 35, 2) := by decide +kernel
theorem dX9_count_65 : decode cX9_count 65 = .ok (.aload_n 0, 1) := by decide +kernel
theorem dX9_count_66 : decode cX9_count 66 = .ok (.getfield 7, 3) := by decide +kernel
theorem dX9_count_69 : decode cX9_count 69 = .ok (.iadd, 1) := by decide +kernel
theorem dX9_count_70 : decode cX9_count 70 = .ok (.goto 4, 3) := by decide +kernel
theorem dX9_count_73 : decode cX9_count 73 = .ok (.iconst 0, 1) := by decide +kernel
theorem dX9_count_74 : decode cX9_count 74 = .ok (.ireturn, 1) := by decide +kernel
theorem dX9_count_75 : decode cX9_count 75 = .ok (.iconst (-1), 1) := by decide +kernel
theorem dX9_count_76 : decode cX9_count 76 = .ok (.ireturn, 1) := by decide +kernel
set_option maxRecDepth 20000 in
theorem ggX9_check_X9_isMade : GoodIn wsX9_check wsX9_isMade := goodIn_r _ [10, 1, 11, 12, 13, 14, 9, 15, 38, 39, 40, 41, 42, 43, 44, 45, 46, 47, 48, 49, 50, 51, 52, 53, 54, 55, 56, 57, 58] (by decide +kernel) (by decide +kernel)
set_option maxRecDepth 20000 in
theorem gX9_check_X9_isMade : GoodIn wsX9_check (wsV RX9 103 RX9 yX9_isMade wsX9_isMade) := goodIn_app (goodIn_of _ (by decide +kernel)) ggX9_check_X9_isMade
set_option maxRecDepth 20000 in
theorem ggX9_check_X9_at : GoodIn wsX9_check wsX9_at := goodIn_r _ [18] (by decide +kernel) (by decide +kernel)
set_option maxRecDepth 20000 in
theorem gX9_check_X9_at : GoodIn wsX9_check (va_wsS RX9 107 yX9_at wsX9_at) := goodIn_app (goodIn_of _ (by decide +kernel)) ggX9_check_X9_at
set_option maxRecDepth 20000 in
theorem ggX9_check_X9_join : GoodIn wsX9_check wsX9_join := goodIn_r _ [22, 23, 24, 25, 26, 27, 9, 28, 4, 5, 29, 30, 31, 32, 33, 34, 35, 36, 37, 38, 39, 40, 41, 42, 43, 44, 45, 46, 47, 48, 49, 50, 51, 52, 53, 54, 55, 56, 57, 58] (by decide +kernel) (by decide +kernel)
set_option maxRecDepth 20000 in
theorem gX9_check_X9_join : GoodIn wsX9_check (wsV RX9 111 RX9 yX9_join wsX9_join) := goodIn_app (goodIn_of _ (by decide +kernel)) ggX9_check_X9_join
theorem dX9_check_0 : decode cX9_check 0 = .ok (.iconst 1, 1) := by decide +kernel
theorem dX9_check_1 : decode cX9_check 1 = .ok (.istore_n 1, 1) := by decide +kernel
theorem dX9_check_2 : decode cX9_check 2 = .ok (.iload_n 1, 1) := by decide +kernel
theorem dX9_check_3 : decode cX9_check 3 = .ok (.aload_n 0, 1) := by decide +kernel
theorem dX9_check_4 : decode cX9_check 4 = .ok (.getfield 7, 3) := by decide +kernel
theorem dX9_check_7 : decode cX9_check 7 = .ok (.if_icmp .gt 108, 3) := by decide +kernel
theorem dX9_check_10 : decode cX9_check 10 = .ok (.iconst 0, 1) := by decide +kernel
theorem dX9_check_11 : decode cX9_check 11 = .ok (.istore_n 2, 1) := by decide +kernel
theorem dX9_check_12 : decode cX9_check 12 = .ok (.aload_n 0, 1) := by decide +kernel
theorem dX9_check_13 : decode cX9_check 13 = .ok (.iload_n 1, 1) := by decide +kernel
theorem dX9_check_14 : decode cX9_check 14 = .ok (.iload_n 2, 1) := by decide +kernel
theorem dX9_check_15 : decode cX9_check 15 = .ok (.invokevirtual 103, 3) := by decide +kernel
theorem dX9_check_18 : decode cX9_check 18 = .ok (.ifCond .eq 91, 3) := by decide +kernel
theorem dX9_check_21 : decode cX9_check 21 = .ok (.iload_n 1, 1) := by decide +kernel
theorem dX9_check_22 : decode cX9_check 22 = .ok (.iconst 1, 1) := by decide +kernel
theorem dX9_check_23 : decode cX9_check 23 = .ok (.isub, 1) := by decide +kernel
theorem dX9_check_24 : decode cX9_check 24 = .ok (.iconst 2, 1) := by decide +kernel
theorem dX9_check_25 : decode cX9_check 25 = .ok (.iload_n 2, 1) := by decide +kernel
theorem dX9_check_26 : decode cX9_check 26 = .ok (.imul, 1) := by decide +kernel
theorem dX9_check_27 : decode cX9_check 27 = .ok (.invokestatic 107, 3) := by decide +kernel
theorem dX9_check_30 : decode cX9_check 30 = .ok (.istore_n 3, 1) := by decide +kernel
theorem dX9_check_31 : decode cX9_check 31 = .ok (.aload_n 0, 1) := by decide +kernel
theorem dX9_check_32 : decode cX9_check 32 = .ok (.iload_n 1, 1) := by decide +kernel
theorem dX9_check_33 : decode cX9_check 33 = .ok (.iload_n 2, 1) := by decide +kernel
theorem dX9_check_34 : decode cX9_check 34 = .ok (.aload_n 0, 1) := by decide +kernel
theorem dX9_check_35 : decode cX9_check 35 = .ok (.getfield 13, 3) := by decide +kernel
theorem dX9_check_38 : decode cX9_check 38 = .ok (.iload_n 3, 1) := by decide +kernel
theorem dX9_check_39 : decode cX9_check 39 = .ok (.laload, 1) := by decide +kernel
theorem dX9_check_40 : decode cX9_check 40 = .ok (.aload_n 0, 1) := by decide +kernel
theorem dX9_check_41 : decode cX9_check 41 = .ok (.getfield 17, 3) := by decide +kernel
theorem dX9_check_44 : decode cX9_check 44 = .ok (.iload_n 3, 1) := by decide +kernel
theorem dX9_check_45 : decode cX9_check 45 = .ok (.laload, 1) := by decide +kernel
theorem dX9_check_46 : decode cX9_check 46 = .ok (.aload_n 0, 1) := by decide +kernel
theorem dX9_check_47 : decode cX9_check 47 = .ok (.getfield 13, 3) := by decide +kernel
theorem dX9_check_50 : decode cX9_check 50 = .ok (.iload_n 3, 1) := by decide +kernel
theorem dX9_check_51 : decode cX9_check 51 = .ok (.iconst 1, 1) := by decide +kernel
theorem dX9_check_52 : decode cX9_check 52 = .ok (.iadd, 1) := by decide +kernel
theorem dX9_check_53 : decode cX9_check 53 = .ok (.laload, 1) := by decide +kernel
theorem dX9_check_54 : decode cX9_check 54 = .ok (.aload_n 0, 1) := by decide +kernel
theorem dX9_check_55 : decode cX9_check 55 = .ok (.getfield 17, 3) := by decide +kernel
theorem dX9_check_58 : decode cX9_check 58 = .ok (.iload_n 3, 1) := by decide +kernel
theorem dX9_check_59 : decode cX9_check 59 = .ok (.iconst 1, 1) := by decide +kernel
theorem dX9_check_60 : decode cX9_check 60 = .ok (.iadd, 1) := by decide +kernel
theorem dX9_check_61 : decode cX9_check 61 = .ok (.laload, 1) := by decide +kernel
theorem dX9_check_62 : decode cX9_check 62 = .ok (.invokevirtual 111, 3) := by decide +kernel
theorem dX9_check_65 : decode cX9_check 65 = .ok (.aload_n 0, 1) := by decide +kernel
theorem dX9_check_66 : decode cX9_check 66 = .ok (.getfield 43, 3) := by decide +kernel
theorem dX9_check_69 : decode cX9_check 69 = .ok (.aload_n 0, 1) := by decide +kernel
theorem dX9_check_70 : decode cX9_check 70 = .ok (.getfield 13, 3) := by decide +kernel
theorem dX9_check_73 : decode cX9_check 73 = .ok (.iload_n 1, 1) := by decide +kernel
theorem dX9_check_74 : decode cX9_check 74 = .ok (.iload_n 2, 1) := by decide +kernel
theorem dX9_check_75 : decode cX9_check 75 = .ok (.invokestatic 107, 3) := by decide +kernel
theorem dX9_check_78 : decode cX9_check 78 = .ok (.laload, 1) := by decide +kernel
theorem dX9_check_79 : decode cX9_check 79 = .ok (.lcmp, 1) := by decide +kernel
theorem dX9_check_80 : decode cX9_check 80 = .ok (.ifCond .ne 21, 3) := by decide +kernel
theorem dX9_check_83 : decode cX9_check 83 = .ok (.aload_n 0, 1) := by decide +kernel
theorem dX9_check_84 : decode cX9_check 84 = .ok (.getfield 47, 3) := by decide +kernel
theorem dX9_check_87 : decode cX9_check 87 = .ok (.aload_n 0, 1) := by decide +kernel
theorem dX9_check_88 : decode cX9_check 88 = .ok (.getfield 17, 3) := by decide +kernel
theorem dX9_check_91 : decode cX9_check 91 = .ok (.iload_n 1, 1) := by decide +kernel
theorem dX9_check_92 : decode cX9_check 92 = .ok (.iload_n 2, 1) := by decide +kernel
theorem dX9_check_93 : decode cX9_check 93 = .ok (.invokestatic 107, 3) := by decide +kernel
theorem dX9_check_96 : decode cX9_check 96 = .ok (.laload, 1) := by decide +kernel
theorem dX9_check_97 : decode cX9_check 97 = .ok (.lcmp, 1) := by decide +kernel
theorem dX9_check_98 : decode cX9_check 98 = .ok (.ifCond .eq 5, 3) := by decide +kernel
theorem dX9_check_101 : decode cX9_check 101 = .ok (.iconst 0, 1) := by decide +kernel
theorem dX9_check_102 : decode cX9_check 102 = .ok (.ireturn, 1) := by decide +kernel
theorem dX9_check_103 : decode cX9_check 103 = .ok (.iinc 2 1, 3) := by decide +kernel
theorem dX9_check_106 : decode cX9_check 106 = .ok (.goto (-94), 3) := by decide +kernel
theorem dX9_check_109 : decode cX9_check 109 = .ok (.iinc 1 1, 3) := by decide +kernel
theorem dX9_check_112 : decode cX9_check 112 = .ok (.goto (-110), 3) := by decide +kernel
theorem dX9_check_115 : decode cX9_check 115 = .ok (.iconst 1, 1) := by decide +kernel
theorem dX9_check_116 : decode cX9_check 116 = .ok (.ireturn, 1) := by decide +kernel
theorem dJ9_min_7cf53_0 : decode cJ9_min_7cf53 0 = .ok (.iload_n 0, 1) := by decide +kernel
theorem dJ9_min_7cf53_1 : decode cJ9_min_7cf53 1 = .ok (.iload_n 1, 1) := by decide +kernel
theorem dJ9_min_7cf53_2 : decode cJ9_min_7cf53 2 = .ok (.if_icmp .gt 7, 3) := by decide +kernel
theorem dJ9_min_7cf53_5 : decode cJ9_min_7cf53 5 = .ok (.iload_n 0, 1) := by decide +kernel
theorem dJ9_min_7cf53_6 : decode cJ9_min_7cf53 6 = .ok (.goto 4, 3) := by decide +kernel
theorem dJ9_min_7cf53_9 : decode cJ9_min_7cf53 9 = .ok (.iload_n 1, 1) := by decide +kernel
theorem dJ9_min_7cf53_10 : decode cJ9_min_7cf53 10 = .ok (.ireturn, 1) := by decide +kernel
end
section
/-! the document's numbers: the hash, chains, leaves, nodes, digits -/
def shr6 (x : Int64) (k : Nat) : Int64 := (x.toUInt64 >>> ((nI k).toInt64.toUInt64 &&& Int64.toUInt64 63)).toInt64
def mx1 (x : Int64) : Int64 := (x ^^^ shr6 x 30) * (-4658895280553007687)
def mx2 (x : Int64) : Int64 := (x ^^^ shr6 x 27) * (-7723592293110705685)
def mxL (x : Int64) : Int64 := mx2 (mx1 x) ^^^ shr6 (mx2 (mx1 x)) 31
/-- the hash's two longs, and one long more -/
def ha (v : Int64 × Int64) (x : Int64) : Int64 × Int64 := (mxL (v.1 ^^^ x), mxL (v.2 + mxL (v.1 ^^^ x)))
def hm (v : Int64 × Int64) (f : Nat → Int64) : Nat → Int64 × Int64
  | 0 => v
  | n + 1 => ha (hm v f n) (f n)
/-- place j + 1 of a chain, of place j -/
def cst (o : Int64) (lf ch j : Nat) (v : Int64 × Int64) : Int64 × Int64 := ha (ha (ha (ha (ha (ha (lN 2, lN 6) o) (lN lf)) (lN ch)) (lN j)) v.1) v.2
def cry (o : Int64) (lf ch : Nat) (v : Int64 × Int64) (j : Nat) : Nat → Int64 × Int64
  | 0 => v
  | n + 1 => cst o lf ch (j + n) (cry o lf ch v j n)
def cs0 (w1 w2 : Int64) (lf ch : Nat) : Int64 × Int64 := ha (ha (ha (ha (lN 1, lN 4) w1) w2) (lN lf)) (lN ch)
def plc (w1 w2 o : Int64) (lf ch d : Nat) : Int64 × Int64 := cry o lf ch (cs0 w1 w2 lf ch) 0 d
/-- pairs, one behind the other -/
def hp (v : Int64 × Int64) (E : Nat → Int64 × Int64) : Nat → Int64 × Int64
  | 0 => v
  | n + 1 => ha (ha (hp v E n) (E n).1) (E n).2
def lfv (o : Int64) (lf : Nat) (E : Nat → Int64 × Int64) : Int64 × Int64 := hp (ha (ha (lN 3, lN 72) o) (lN lf)) E 35
def nd (o : Int64) (lv i : Nat) (v w : Int64 × Int64) : Int64 × Int64 := ha (ha (ha (ha (ha (ha (ha (lN 4, lN 7) o) (lN lv)) (lN i)) v.1) v.2) w.1) w.2
def nv (w1 w2 o : Int64) : Nat → Nat → Int64 × Int64
  | 0, i => lfv o i (fun ch => plc w1 w2 o i ch 15)
  | lv + 1, i => nd o (lv + 1) i (nv w1 w2 o lv (2 * i)) (nv w1 w2 o lv (2 * i + 1))
def dgs (o : Int64) (lf : Nat) (ra rb : Int64) (f : Nat → Int64) (n : Nat) : Int64 × Int64 := hm (ha (ha (ha (ha (lN 5, lN (4 + n)) o) (lN lf)) ra) rb) f n
/-- 4 bits of a long, from bit k on -/
def dg4 (x : Int64) (k : Nat) : Nat := (shr6 x k).toInt32.toBitVec.toNat % 16
def d4 (v : Int64 × Int64) (k : Nat) : Nat := dg4 (if k < 16 then v.1 else v.2) (60 - 4 * (k % 16))
def lk (v : Int64 × Int64) : Nat → Nat
  | 0 => 0
  | n + 1 => lk v n + (15 - d4 v n)
def digs (v : Int64 × Int64) (k : Nat) : Nat := if k < 32 then d4 v k else if k = 32 then lk v 32 / 256 else if k = 33 then lk v 32 / 16 % 16 else lk v 32 % 16
theorem d4_lt (v : Int64 × Int64) (k : Nat) : d4 v k < 16 := Nat.mod_lt _ (by decide)
theorem lk_le (v : Int64 × Int64) : ∀ n, lk v n ≤ 15 * n
  | 0 => Nat.le_refl 0
  | n + 1 => by
    have h := lk_le v n
    show lk v n + (15 - d4 v n) ≤ 15 * (n + 1)
    omega
theorem digs_lt (v : Int64 × Int64) (k : Nat) : digs v k < 16 := by
  unfold digs
  have h := lk_le v 32
  have h2 := d4_lt v k
  split
  · exact h2
  · split
    · omega
    · split <;> omega
/-- rows: the pair at place ch; the first n of another -/
def setP (g : Nat → Int64) (ch : Nat) (v : Int64 × Int64) : Nat → Int64 := vp_updL (vp_updL g (2 * ch) v.1) (2 * ch + 1) v.2
def mkT {α : Type} (g : Nat → α) (n : Nat) (f : Nat → α) : Nat → α := fun k => if k < n then g k else f k
def pr (E : Nat → Int64 × Int64) : Nat → Int64 := fun j => if j % 2 = 0 then (E (j / 2)).1 else (E (j / 2)).2
theorem setP_1 (g : Nat → Int64) (ch : Nat) (v : Int64 × Int64) : setP g ch v (2 * ch) = v.1 := by
  unfold setP vp_updL
  simp
theorem setP_2 (g : Nat → Int64) (ch : Nat) (v : Int64 × Int64) : setP g ch v (2 * ch + 1) = v.2 := by
  unfold setP vp_updL
  simp
theorem setP_n (g : Nat → Int64) (ch j : Nat) (v : Int64 × Int64) (h1 : j ≠ 2 * ch) (h2 : j ≠ 2 * ch + 1) : setP g ch v j = g j := by
  unfold setP vp_updL
  simp [h1, h2]
theorem setP_setP (g : Nat → Int64) (ch : Nat) (v w : Int64 × Int64) : setP (setP g ch v) ch w = setP g ch w := by
  funext j
  by_cases h1 : j = 2 * ch
  · subst h1; rw [setP_1, setP_1]
  · by_cases h2 : j = 2 * ch + 1
    · subst h2; rw [setP_2, setP_2]
    · rw [setP_n _ _ _ _ h1 h2, setP_n _ _ _ _ h1 h2, setP_n _ _ _ _ h1 h2]
theorem setP_self (g : Nat → Int64) (ch : Nat) : setP g ch (g (2 * ch), g (2 * ch + 1)) = g := by
  funext j
  by_cases h1 : j = 2 * ch
  · subst h1; rw [setP_1]
  · by_cases h2 : j = 2 * ch + 1
    · subst h2; rw [setP_2]
    · rw [setP_n _ _ _ _ h1 h2]
theorem mkT_0 {α : Type} (g f : Nat → α) : mkT g 0 f = f := by
  funext k; simp [mkT]
theorem mkT_lt {α : Type} {g f : Nat → α} {n k : Nat} (h : k < n) : mkT g n f k = g k := by simp [mkT, h]
theorem mkT_ge {α : Type} {g f : Nat → α} {n k : Nat} (h : n ≤ k) : mkT g n f k = f k := by simp [mkT, Nat.not_lt.mpr h]
theorem mkT_upd (g f : Nat → Int32) (n : Nat) : upd (mkT g n f) n (g n) = mkT g (n + 1) f := by
  funext k
  by_cases h : k = n
  · subst h; rw [pk_us, mkT_lt (Nat.lt_succ_self _)]
  · rw [pk_un h]
    by_cases h2 : k < n
    · rw [mkT_lt h2, mkT_lt (by omega)]
    · rw [mkT_ge (by omega), mkT_ge (by omega)]
theorem mkT_updL (g f : Nat → Int64) (n : Nat) : vp_updL (mkT g n f) n (g n) = mkT g (n + 1) f := by
  funext k
  by_cases h : k = n
  · subst h; rw [pk_uLs, mkT_lt (Nat.lt_succ_self _)]
  · rw [pk_uLn h]
    by_cases h2 : k < n
    · rw [mkT_lt h2, mkT_lt (by omega)]
    · rw [mkT_ge (by omega), mkT_ge (by omega)]
theorem pr_1 (E : Nat → Int64 × Int64) (n : Nat) : pr E (2 * n) = (E n).1 := by
  have h1 : 2 * n % 2 = 0 := by omega
  have h2 : 2 * n / 2 = n := by omega
  simp [pr, h1, h2]
theorem pr_2 (E : Nat → Int64 × Int64) (n : Nat) : pr E (2 * n + 1) = (E n).2 := by
  have h1 : (2 * n + 1) % 2 = 1 := by omega
  have h2 : (2 * n + 1) / 2 = n := by omega
  simp [pr, h1, h2]
theorem mkT_setP (E : Nat → Int64 × Int64) (f : Nat → Int64) (n : Nat) : setP (mkT (pr E) (2 * n) f) n (E n) = mkT (pr E) (2 * (n + 1)) f := by
  have h : 2 * (n + 1) = 2 * n + 1 + 1 := by omega
  rw [h, ← mkT_updL, ← mkT_updL, pr_1, pr_2]
  rfl
theorem hm_congr {v : Int64 × Int64} {f g : Nat → Int64} : ∀ n, (∀ k, k < n → f k = g k) → hm v f n = hm v g n
  | 0, _ => rfl
  | n + 1, h => by
    show ha (hm v f n) (f n) = ha (hm v g n) (g n)
    rw [hm_congr n (fun k hk => h k (by omega)), h n (Nat.lt_succ_self _)]
theorem hm_pr (v : Int64 × Int64) (E : Nat → Int64 × Int64) : ∀ n, hm v (pr E) (2 * n) = hp v E n
  | 0 => rfl
  | n + 1 => by
    have h : 2 * (n + 1) = 2 * n + 1 + 1 := by omega
    rw [h]
    show ha (ha (hm v (pr E) (2 * n)) (pr E (2 * n))) (pr E (2 * n + 1)) = ha (ha (hp v E n) (E n).1) (E n).2
    rw [hm_pr v E n, pr_1, pr_2]
theorem hm_2 (v : Int64 × Int64) (f : Nat → Int64) (n : Nat) : hm v f (2 * (n + 1)) = ha (ha (hm v f (2 * n)) (f (2 * n))) (f (2 * n + 1)) := by
  have h : 2 * (n + 1) = 2 * n + 1 + 1 := by omega
  rw [h]
  rfl
theorem hp_congr {v : Int64 × Int64} {E F : Nat → Int64 × Int64} : ∀ n, (∀ k, k < n → E k = F k) → hp v E n = hp v F n
  | 0, _ => rfl
  | n + 1, h => by
    show ha (ha (hp v E n) (E n).1) (E n).2 = ha (ha (hp v F n) (F n).1) (F n).2
    rw [hp_congr n (fun k hk => h k (by omega)), h n (Nat.lt_succ_self _)]
/-! comparisons of ints that are numbers -/
def bI (x : Bool) : Int32 := bif x then nI 1 else nI 0
theorem q_lt {a b : Nat} (ha : a < 2 ^ 31) (hb : b < 2 ^ 31) : (nI a < nI b) = (a < b) := propext (nI_ltI ha hb)
theorem q_le {a b : Nat} (ha : a < 2 ^ 31) (hb : b < 2 ^ 31) : (nI a ≤ nI b) = (a ≤ b) := propext (nI_leI ha hb)
theorem q_eq {a b : Nat} (ha : a < 2 ^ 31) (hb : b < 2 ^ 31) : (nI a = nI b) = (a = b) := propext (nI_eq ha hb)
theorem q_lt0 {a : Nat} (ha : a < 2 ^ 31) : (nI a < 0) = (a < 0) := q_lt (b := 0) ha (by decide)
theorem q_le0 {a : Nat} (ha : a < 2 ^ 31) : (nI a ≤ 0) = (a ≤ 0) := q_le (b := 0) ha (by decide)
theorem q_eq0 {a : Nat} (ha : a < 2 ^ 31) : (nI a = 0) = (a = 0) := q_eq (b := 0) ha (by decide)
theorem q_ge0 {a : Nat} (ha : a < 2 ^ 31) : (0 ≤ nI a) = (0 ≤ a) := q_le (a := 0) (by decide) ha
theorem q_gt0 {a : Nat} (ha : a < 2 ^ 31) : (0 < nI a) = (0 < a) := q_lt (a := 0) (by decide) ha
theorem q_b0 {x : Bool} : (bI x = 0) = (x = false) := by
  cases x
  · simp [bI]; rfl
  · simp [bI]; decide
theorem q_lceq {x y : Int64} : (lg_cmp x y = 0) = (x = y) := by
  unfold lg_cmp
  by_cases h1 : y < x
  · simp only [h1, if_true]
    have : x ≠ y := fun h => by subst h; exact absurd h1 (by simp)
    simp [this]
  · by_cases h2 : x = y
    · subst h2; simp
    · simp [h1, h2]
theorem st_sl : ∀ n, n < 32 → ((nI n &&& 31).toBitVec.smod 32).toNat = n := by decide +kernel
theorem st_shl1 {k : Nat} (h : k < 31) : nI 1 <<< (nI k &&& 31) = nI (2 ^ k) := by
  have h2 : 2 ^ k < 2 ^ 32 := Nat.pow_lt_pow_right (by decide) (by omega)
  rw [pk_shlN (n := 1) _ k (st_sl k (by omega)) (by omega), Nat.one_mul]
theorem st_shl {a k : Nat} (h : k < 31) (h2 : a * 2 ^ k < 2 ^ 32) : nI a <<< (nI k &&& 31) = nI (a * 2 ^ k) := pk_shlN _ k (st_sl k (by omega)) h2
theorem st_shr {a k : Nat} (ha : a < 2 ^ 31) (h : k < 32) : nI a >>> (nI k &&& 31) = nI (a / 2 ^ k) := pk_shrN ha _ k (st_sl k h)
theorem st_inc (a n : Nat) (h : Int32.ofInt (n : Int) = nI n) : nI a + Int32.ofInt (n : Int) = nI (a + n) := by
  rw [h]; exact nI_add a n
end
section
section ST
variable {p : Program} {l : Launch} {e : Env} {R : Room} {s : State} {m : MethodId} {args : Array Value} {below : List Frame} {meth : Method} {c : Code} {H : Heap} {locs : List Loc} {cells slots : Nat} {Q : State → Prop}
variable {cc : ByteArray} {pc : Nat} {ls : Array Slot} {rest : List Value} {D : va_G} {cl : List vw_C} {tys : List (ClassId × FieldType)} {ws : va_W} {A : Nat → Prop} {H0 : Heap} {a : Nat}
/-- another form of the int on top -/
theorem st_i {x y : Int32} (h : x = y) (k : W p l e R s m args below meth c H locs cells slots Q (F0 m pc ls (.int y :: rest))) : W p l e R s m args below meth c H locs cells slots Q (F0 m pc ls (.int x :: rest)) := by
  subst h; exact k
/-- another form of the long on top -/
theorem st_l {x y : Int64} (h : x = y) (k : W p l e R s m args below meth c H locs cells slots Q (F0 m pc ls (.long y :: rest))) : W p l e R s m args below meth c H locs cells slots Q (F0 m pc ls (.long x :: rest)) := by
  subst h; exact k
theorem st_lald (hexec : p.tables.exec = Jvm.exec) (hb : c.code = cc) (hK : va_K D cl tys s) (hP : va_P D cl ws H) (q0 t0 : Nat) {cA : ClassId} {n : Nat} {f : Nat → Int64} (ha : ws[q0]? = some (a, .inl (cA, n, .inr (.inl f)))) (ht : tys[t0]? = some (cA, .long)) {i : Int32} (j : Nat) (hi : i = nI j) (hj : j < n) (hn : n < 2 ^ 31) (hdg : decode cc pc = .ok (.laload, 1))
    (kk : W p l e R s m args below meth c H locs cells slots Q (F0 m (pc + 1) ls (.long (f j) :: rest))) : W p l e R s m args below meth c H locs cells slots Q (F0 m pc ls (.int i :: .ref a :: rest)) := by
  subst hi
  refine va_lald hexec hb hK hP q0 t0 ha ht (vp_in_nI hj hn) hdg ?_
  rw [nI_clamp (Nat.lt_trans hj hn)]
  exact kk
theorem st_iald (hexec : p.tables.exec = Jvm.exec) (hb : c.code = cc) (hK : va_K D cl tys s) (hP : va_P D cl ws H) (q0 t0 : Nat) {cA : ClassId} {n : Nat} {f : Nat → Int32} (ha : ws[q0]? = some (a, .inl (cA, n, .inl f))) (ht : tys[t0]? = some (cA, .int)) {i : Int32} (j : Nat) (hi : i = nI j) (hj : j < n) (hn : n < 2 ^ 31) (hdg : decode cc pc = .ok (.iaload, 1))
    (kk : W p l e R s m args below meth c H locs cells slots Q (F0 m (pc + 1) ls (.int (f j) :: rest))) : W p l e R s m args below meth c H locs cells slots Q (F0 m pc ls (.int i :: .ref a :: rest)) := by
  subst hi
  refine va_iald hexec hb hK hP q0 t0 ha ht (vp_in_nI hj hn) hdg ?_
  rw [nI_clamp (Nat.lt_trans hj hn)]
  exact kk
theorem st_last (hexec : p.tables.exec = Jvm.exec) (hb : c.code = cc) (hK : va_K D cl tys s) (hP : va_P D cl ws H) (hD : va_D A ws) (hS : va_S A H0 H locs) (q0 t0 : Nat) {cA : ClassId} {n : Nat} {f : Nat → Int64} (ha : ws[q0]? = some (a, .inl (cA, n, .inr (.inl f)))) (ht : tys[t0]? = some (cA, .long)) {i : Int32} {x : Int64} (j : Nat) (hi : i = nI j) (hj : j < n) (hn : n < 2 ^ 31) (hdg : decode cc pc = .ok (.lastore, 1))
    (kk : ∀ (H1 : Heap) (locs1 : List Loc), va_P D cl (ws.set q0 (a, .inl (cA, n, .inr (.inl (vp_updL f j x))))) H1 → va_D A (ws.set q0 (a, .inl (cA, n, .inr (.inl (vp_updL f j x))))) → va_S A H0 H1 locs1 → W p l e R s m args below meth c H1 locs1 cells slots Q (F0 m (pc + 1) ls rest)) : W p l e R s m args below meth c H locs cells slots Q (F0 m pc ls (.long x :: .int i :: .ref a :: rest)) := by
  subst hi
  refine va_last hexec hb hK hP hD hS q0 t0 ha ht (vp_in_nI hj hn) hdg (fun H1 locs1 h1 h2 h3 => ?_)
  rw [nI_clamp (Nat.lt_trans hj hn)] at h1 h2
  exact kk H1 locs1 h1 h2 h3
theorem st_iast (hexec : p.tables.exec = Jvm.exec) (hb : c.code = cc) (hK : va_K D cl tys s) (hP : va_P D cl ws H) (hD : va_D A ws) (hS : va_S A H0 H locs) (q0 t0 : Nat) {cA : ClassId} {n : Nat} {f : Nat → Int32} (ha : ws[q0]? = some (a, .inl (cA, n, .inl f))) (ht : tys[t0]? = some (cA, .int)) {i : Int32} {x : Int32} (j : Nat) (hi : i = nI j) (hj : j < n) (hn : n < 2 ^ 31) (hdg : decode cc pc = .ok (.iastore, 1))
    (kk : ∀ (H1 : Heap) (locs1 : List Loc), va_P D cl (ws.set q0 (a, .inl (cA, n, .inl (upd f j x)))) H1 → va_D A (ws.set q0 (a, .inl (cA, n, .inl (upd f j x)))) → va_S A H0 H1 locs1 → W p l e R s m args below meth c H1 locs1 cells slots Q (F0 m (pc + 1) ls rest)) : W p l e R s m args below meth c H locs cells slots Q (F0 m pc ls (.int x :: .int i :: .ref a :: rest)) := by
  subst hi
  refine va_iast hexec hb hK hP hD hS q0 t0 ha ht (vp_in_nI hj hn) hdg (fun H1 locs1 h1 h2 h3 => ?_)
  rw [nI_clamp (Nat.lt_trans hj hn)] at h1 h2
  exact kk H1 locs1 h1 h2 h3
/-- a contract's start: the cells W0 -/
def st_B (D : va_G) (cl : List vw_C) (tys : List (ClassId × FieldType)) (W0 : va_W) (sz : Nat) (U : State) : Prop := U.heap.size = sz ∧ va_P D cl W0 U.heap ∧ va_K D cl tys U ∧ va_D (fun _ => True) W0
/-- a contract's end: the cells W1 u -/
def st_E {S : Type} (D : va_G) (cl : List vw_C) (tys : List (ClassId × FieldType)) (A : Nat → Prop) (W1 : S → va_W) (u : S) (t : State) : Prop := va_P D cl (W1 u) t.heap ∧ va_K D cl tys t ∧ va_D A (W1 u)
theorem st_blind {av : List Value} {W0 : va_W} {sz : Nat} : FrameBlind (va_Pc av (st_B D cl tys W0 sz)) := fun a U g mk q => by
  obtain ⟨q0, q1, qP, qK, qD⟩ := q
  exact ⟨q0, q1, qP, va_K.moved (u := U) (U := U.calling g mk a) (Vm.Alike.refl U.vm) qK, qD⟩
theorem st_mapf {ws W0 : va_W} {isC : List Nat} (h : isC.map (fun i => ws[i]?) = W0.map some) : isC.filterMap (fun i => ws[i]?) = W0 := by
  have h1 : isC.filterMap (fun i => ws[i]?) = (isC.map (fun i => ws[i]?)).filterMap id := by
    rw [List.filterMap_map]; rfl
  rw [h1, h, List.filterMap_map]
  simp
theorem st_preS {av : List Value} {W0 : va_W} (hK : va_K D cl tys s) (hP : va_P D cl ws H) (hD : va_D A ws) (isC : List Nat) (hC : isC.map (fun i => ws[i]?) = W0.map some) (hn : va_nd isC = true) : PreS s H (va_Pc av (st_B D cl tys W0 H.size)) av :=
  ⟨st_blind, fun U hU hW => ⟨rfl, by rw [hU], by rw [hU]; exact hP.sub isC (st_mapf hC), va_K.moved hW.alike hK, (hD.sub isC hn hC).weaken (fun _ _ _ _ => trivial)⟩⟩
theorem st_preV {b : Nat} {As : List Value} {W0 : va_W} (hK : va_K D cl tys s) (hP : va_P D cl ws H) (hD : va_D A ws) (isC : List Nat) (hC : isC.map (fun i => ws[i]?) = W0.map some) (hn : va_nd isC = true) {ci q0 : Nat} {q : vw_C} {fs : List Value} (hc : cl[ci]? = some q) (he : W0[q0]? = some (b, .inr (ci, fs))) : PreV s H q.1 b (va_Pc (.ref b :: As) (st_B D cl tys W0 H.size)) As :=
  ⟨st_blind, va_recv hK (hP.sub isC (st_mapf hC)) hc he, fun U hU hW => ⟨rfl, by rw [hU], by rw [hU]; exact hP.sub isC (st_mapf hC), va_K.moved hW.alike hK, (hD.sub isC hn hC).weaken (fun _ _ _ _ => trivial)⟩⟩
variable {mc ms : Nat} {st0 : List Value} {av : Array Value}
theorem st_callv {S : Type} {post : S → Prop} {W1 : S → va_W} {W0 wr : va_W} (hr : va_Run p l e R s m args below meth c H locs cells slots mc ms (F0 m pc ls st0) rest (va_Qv post (st_E D cl tys (va_A W0 H.size) W1) (va_A W0 H.size) av) (va_A W0 H.size)) (hP : va_P D cl ws H) (hD : va_D A ws) (hS : va_S A H0 H locs) (hA : ∀ q, H0.size ≤ q → A q)
    (isC isR : List Nat) (hC : isC.map (fun i => ws[i]?) = W0.map some) (hR : isR.map (fun i => ws[i]?) = wr.map some) (hn : va_nd isR = true) (hdis : ∀ i ∈ isR, i ∉ isC) (pm : List Nat) {res : S → va_W} (hp : ∀ u, pm.map (fun i => (wr ++ W1 u)[i]?) = (res u).map some) (hnp : va_nd pm = true)
    (kk : ∀ (u : S) (H1 : Heap) (locs1 : List Loc), post u → va_P D cl (res u) H1 → va_D A (res u) → va_S A H0 H1 locs1 → W p l e R s m args below meth c H1 locs1 (cells + mc) (slots + ms) Q (F0 m (pc + 3) ls rest)) : W p l e R s m args below meth c H locs cells slots Q (F0 m pc ls st0) := by
  have hF := va_free (wc := W0) hD hS hA isC hC
  refine va_callv hr hS (fun q _ h => hF q h) hF (fun u t H1 locs1 ht hvm hw hB hz1 hk1 hS1 => ?_)
  obtain ⟨hP1, hK1, hD1⟩ := hB
  rw [ht] at hP1
  obtain ⟨hP2, hD2⟩ := va_join hP hD isC isR hC hR hn hdis hk1 hF hP1 hD1
  exact kk u H1 locs1 hw (hP2.sub pm (st_mapf (hp u))) (hD2.sub pm hnp (hp u)) hS1
theorem st_calli {S : Type} {post : Int32 → S → Prop} {W1 : S → va_W} {W0 wr : va_W} (hr : va_Run p l e R s m args below meth c H locs cells slots mc ms (F0 m pc ls st0) rest (va_Qi post (st_E D cl tys (va_A W0 H.size) W1) (va_A W0 H.size) av) (va_A W0 H.size)) (hP : va_P D cl ws H) (hD : va_D A ws) (hS : va_S A H0 H locs) (hA : ∀ q, H0.size ≤ q → A q)
    (isC isR : List Nat) (hC : isC.map (fun i => ws[i]?) = W0.map some) (hR : isR.map (fun i => ws[i]?) = wr.map some) (hn : va_nd isR = true) (hdis : ∀ i ∈ isR, i ∉ isC) (pm : List Nat) {res : S → va_W} (hp : ∀ u, pm.map (fun i => (wr ++ W1 u)[i]?) = (res u).map some) (hnp : va_nd pm = true)
    (kk : ∀ (r : Int32) (u : S) (H1 : Heap) (locs1 : List Loc), post r u → va_P D cl (res u) H1 → va_D A (res u) → va_S A H0 H1 locs1 → W p l e R s m args below meth c H1 locs1 (cells + mc) (slots + ms) Q (F0 m (pc + 3) ls (.int r :: rest))) : W p l e R s m args below meth c H locs cells slots Q (F0 m pc ls st0) := by
  have hF := va_free (wc := W0) hD hS hA isC hC
  refine va_calli hr hS (fun q _ h => hF q h) hF (fun r u t H1 locs1 ht hvm hw hB hz1 hk1 hS1 => ?_)
  obtain ⟨hP1, hK1, hD1⟩ := hB
  rw [ht] at hP1
  obtain ⟨hP2, hD2⟩ := va_join hP hD isC isR hC hR hn hdis hk1 hF hP1 hD1
  exact kk r u H1 locs1 hw (hP2.sub pm (st_mapf (hp u))) (hD2.sub pm hnp (hp u)) hS1
theorem st_calll {S : Type} {post : Int64 → S → Prop} {W1 : S → va_W} {W0 wr : va_W} (hr : va_Run p l e R s m args below meth c H locs cells slots mc ms (F0 m pc ls st0) rest (va_Ql post (st_E D cl tys (va_A W0 H.size) W1) (va_A W0 H.size) av) (va_A W0 H.size)) (hP : va_P D cl ws H) (hD : va_D A ws) (hS : va_S A H0 H locs) (hA : ∀ q, H0.size ≤ q → A q)
    (isC isR : List Nat) (hC : isC.map (fun i => ws[i]?) = W0.map some) (hR : isR.map (fun i => ws[i]?) = wr.map some) (hn : va_nd isR = true) (hdis : ∀ i ∈ isR, i ∉ isC) (pm : List Nat) {res : S → va_W} (hp : ∀ u, pm.map (fun i => (wr ++ W1 u)[i]?) = (res u).map some) (hnp : va_nd pm = true)
    (kk : ∀ (r : Int64) (u : S) (H1 : Heap) (locs1 : List Loc), post r u → va_P D cl (res u) H1 → va_D A (res u) → va_S A H0 H1 locs1 → W p l e R s m args below meth c H1 locs1 (cells + mc) (slots + ms) Q (F0 m (pc + 3) ls (.long r :: rest))) : W p l e R s m args below meth c H locs cells slots Q (F0 m pc ls st0) := by
  have hF := va_free (wc := W0) hD hS hA isC hC
  refine va_calll hr hS (fun q _ h => hF q h) hF (fun r u t H1 locs1 ht hvm hw hB hz1 hk1 hS1 => ?_)
  obtain ⟨hP1, hK1, hD1⟩ := hB
  rw [ht] at hP1
  obtain ⟨hP2, hD2⟩ := va_join hP hD isC isR hC hR hn hdis hk1 hF hP1 hD1
  exact kk r u H1 locs1 hw (hP2.sub pm (st_mapf (hp u))) (hD2.sub pm hnp (hp u)) hS1
end ST
section STL
variable {p : Program} {l : Launch} {e : Env} {R : Room} {s : State} {m : MethodId} {args : Array Value} {below : List Frame} {meth : Method} {c : Code} {H : Heap} {locs : List Loc} {cells slots : Nat} {Q : State → Prop} {ls : Array Slot} {rest : List Value}
/-- a loop by a counter -/
theorem st_loop {head : Nat} {I : Nat → Heap → List Loc → Array Slot → Prop} (i0 en : Nat) (hle : i0 ≤ en) (h0 : I i0 H locs ls) (hx : ∀ H locs ls, I en H locs ls → W p l e R s m args below meth c H locs cells slots Q (F0 m head ls rest))
    (hs : ∀ i H locs ls, i < en → I i H locs ls → (∀ H locs ls, I (i + 1) H locs ls → W p l e R s m args below meth c H locs cells slots Q (F0 m head ls rest)) → W p l e R s m args below meth c H locs cells slots Q (F0 m head ls rest)) : W p l e R s m args below meth c H locs cells slots Q (F0 m head ls rest) := by
  have key : ∀ k i H locs ls, i + k = en → I i H locs ls → W p l e R s m args below meth c H locs cells slots Q (F0 m head ls rest) := by
    intro k
    induction k with
    | zero =>
      intro i H locs ls h hI
      have h2 : i = en := by omega
      subst h2
      exact hx _ _ _ hI
    | succ k ih =>
      intro i H locs ls h hI
      exact hs i _ _ _ (by omega) hI (fun H2 locs2 ls2 hI2 => ih (i + 1) H2 locs2 ls2 (by omega) hI2)
  exact key (en - i0) i0 _ _ _ (by omega) h0
end STL
end
section
theorem wb_tb (n : Nat) : (lN n).toBitVec = BitVec.ofNat 64 n := rfl
theorem wb_inj {a b : Int64} (h : a.toBitVec = b.toBitVec) : a = b := Int64.toBitVec_inj.mp h
theorem wb_tn {n : Nat} (h : n < 2 ^ 64) : (lN n).toBitVec.toNat = n := by rw [wb_tb, BitVec.toNat_ofNat, Nat.mod_eq_of_lt h]
theorem wb_cu : ∀ k, k < 64 → ((nI k).toInt64.toUInt64 &&& Int64.toUInt64 63) = UInt64.ofNat k := by decide +kernel
theorem wb_shr {n k : Nat} (hn : n < 2 ^ 64) (hk : k < 64) : ((lN n).toUInt64 >>> ((nI k).toInt64.toUInt64 &&& Int64.toUInt64 63)).toInt64 = lN (n / 2 ^ k) := by
  rw [wb_cu k hk]
  apply wb_inj
  apply BitVec.eq_of_toNat_eq
  show ((lN n).toUInt64 >>> UInt64.ofNat k).toNat = (BitVec.ofNat 64 _).toNat
  have h1 : (UInt64.ofNat k).toNat = k := by
    show (BitVec.ofNat 64 k).toNat = k
    rw [BitVec.toNat_ofNat, Nat.mod_eq_of_lt (by omega)]
  have h2 : (lN n).toUInt64.toNat = n := wb_tn hn
  rw [UInt64.toNat_shiftRight, h1, h2, Nat.mod_eq_of_lt hk, Nat.shiftRight_eq_div_pow, BitVec.toNat_ofNat, Nat.mod_eq_of_lt (Nat.lt_of_le_of_lt (Nat.div_le_self _ _) hn)]
theorem nx_xor (a b : Nat) : nI a ^^^ nI b = nI (a ^^^ b) := by
  apply Int32.toBitVec_inj.1
  show BitVec.ofNat 32 a ^^^ BitVec.ofNat 32 b = BitVec.ofNat 32 (a ^^^ b)
  apply BitVec.eq_of_getLsbD_eq
  intro i hi
  simp [hi]
theorem bI_t {P : Prop} [Decidable P] (h : P) : nI 1 = bI (decide P) := by rw [decide_eq_true h]; rfl
theorem bI_f {P : Prop} [Decidable P] (h : ¬ P) : nI 0 = bI (decide P) := by rw [decide_eq_false h]; rfl
theorem bI_t2 {x : Bool} (h : x = true) : nI 1 = bI x := by rw [h]; rfl
theorem bI_f2 {x : Bool} (h : ¬ x = true) : nI 0 = bI x := by
  cases x
  · rfl
  · exact absurd rfl h
/-- node xi of level xl is made -/
def isMB (hh md : Nat) (xl xi : Int32) : Bool := decide (¬ xl < 0 ∧ ¬ nI hh < xl ∧ ¬ xi < 0 ∧ (xi.toNatClampNeg + 1) * 2 ^ xl.toNatClampNeg ≤ md)
theorem isMB_iff {hh md : Nat} {xl xi : Int32} : isMB hh md xl xi = true ↔ (¬ xl < 0 ∧ ¬ nI hh < xl ∧ ¬ xi < 0 ∧ (xi.toNatClampNeg + 1) * 2 ^ xl.toNatClampNeg ≤ md) := decide_eq_true_iff
theorem isM_lv {hh : Nat} {xl : Int32} (h1 : ¬ xl < 0) (h2 : ¬ nI hh < xl) (h4 : hh ≤ 4) : ∃ lv, lv ≤ hh ∧ xl = nI lv := nI_of2 (M := nI hh) (nI_toInt (by omega)) h1 (Int32.not_lt.mp h2)
theorem isMB_nat {hh md lv iv : Nat} (h1 : hh < 2 ^ 31) (h2 : lv < 2 ^ 31) (h3 : iv < 2 ^ 31) : isMB hh md (nI lv) (nI iv) = true ↔ (lv ≤ hh ∧ (iv + 1) * 2 ^ lv ≤ md) := by
  rw [isMB_iff, q_lt0 h2, q_lt h1 h2, q_lt0 h3, nI_clamp h2, nI_clamp h3]
  constructor
  · intro h
    exact ⟨Nat.not_lt.mp h.2.1, h.2.2.2⟩
  · intro h
    exact ⟨Nat.not_lt_zero _, Nat.not_lt.mpr h.1, Nat.not_lt_zero _, h.2⟩
theorem le_dv {a i k : Nat} : (i + 1) * 2 ^ k ≤ a ↔ i < a / 2 ^ k := by
  rw [← Nat.le_div_iff_mul_le (Nat.two_pow_pos k)]
  exact Nat.succ_le_iff
theorem isM_no {hh md lv iv : Nat} (h1 : hh < 2 ^ 31) (h2 : lv < 2 ^ 31) (h3 : iv < 2 ^ 31) (h : md / 2 ^ lv ≤ iv) : ¬ isMB hh md (nI lv) (nI iv) = true := by
  rw [isMB_nat h1 h2 h3, le_dv]
  omega
theorem isM_yes {hh md lv iv : Nat} (hl : lv ≤ hh) (h1 : hh < 2 ^ 31) (h3 : iv < 2 ^ 31) (h : ¬ md / 2 ^ lv ≤ iv) : isMB hh md (nI lv) (nI iv) = true := by
  rw [isMB_nat h1 (by omega) h3, le_dv]
  omega
theorem d4_lo {v1 v2 : Int64} {i : Nat} (h : ¬ 16 ≤ i) : d4 (v1, v2) i = dg4 v1 (4 * (15 - i % 16)) := by
  have h2 : 60 - 4 * (i % 16) = 4 * (15 - i % 16) := by omega
  unfold d4
  rw [if_pos (by omega), h2]
theorem d4_hi {v1 v2 : Int64} {i : Nat} (h : 16 ≤ i) : d4 (v1, v2) i = dg4 v2 (4 * (15 - i % 16)) := by
  have h2 : 60 - 4 * (i % 16) = 4 * (15 - i % 16) := by omega
  unfold d4
  rw [if_neg (by omega), h2]
theorem dg4_lN {n k : Nat} (hn : n < 2 ^ 31) (hk : k < 64) : dg4 (lN n) k = n / 2 ^ k % 16 := by
  unfold dg4 shr6
  rw [wb_shr (by omega) hk, lN_i, pk_tn (Nat.lt_of_le_of_lt (Nat.div_le_self _ _) (by omega))]
theorem digs_lo (v : Int64 × Int64) {k : Nat} (h : k < 32) : digs v k = d4 v k := by
  unfold digs
  rw [if_pos h]
theorem digs_hi (v : Int64 × Int64) {i : Nat} (h1 : 32 ≤ i) (h2 : i < 35) : dg4 (lN (lk v 32)) (4 * (34 - i)) = digs v i := by
  have h := lk_le v 32
  rw [dg4_lN (by omega) (by omega)]
  unfold digs
  rw [if_neg (by omega)]
  rcases (show i = 32 ∨ i = 33 ∨ i = 34 by omega) with rfl | rfl | rfl
  · rw [if_pos rfl]
    show lk v 32 / 256 % 16 = _
    omega
  · rw [if_neg (by decide), if_pos rfl]
  · rw [if_neg (by decide), if_neg (by decide)]
    show lk v 32 / 1 % 16 = _
    rw [Nat.div_one]
theorem mkT_congr {α : Type} {g g2 f : Nat → α} {n : Nat} (h : ∀ k, k < n → g k = g2 k) : mkT g n f = mkT g2 n f := by
  funext k
  by_cases hk : k < n
  · rw [mkT_lt hk, mkT_lt hk, h k hk]
  · rw [mkT_ge (by omega), mkT_ge (by omega)]
theorem cry_s {o : Int64} {lf ch fm i : Nat} {v : Int64 × Int64} (h : fm ≤ i) : cry o lf ch v fm (i + 1 - fm) = cst o lf ch i (cry o lf ch v fm (i - fm)) := by
  have h1 : i + 1 - fm = (i - fm) + 1 := by omega
  rw [h1]
  show cst o lf ch (fm + (i - fm)) _ = _
  rw [Nat.add_sub_cancel' h]
end
section
/-! the signer's nodes: the row of pairs, the root at place 1 -/
def gp2 (f : Nat → Int64) (k : Nat) : Int64 × Int64 := (f (2 * k), f (2 * k + 1))
theorem gp2_s (f : Nat → Int64) (k : Nat) (v : Int64 × Int64) : gp2 (setP f k v) k = v := by
  unfold gp2
  rw [setP_1, setP_2]
theorem gp2_n (f : Nat → Int64) {k j : Nat} (v : Int64 × Int64) (h : j ≠ k) : gp2 (setP f k v) j = gp2 f j := by
  unfold gp2
  rw [setP_n _ _ _ _ (by omega) (by omega), setP_n _ _ _ _ (by omega) (by omega)]
def NOK (w1 w2 ov : Int64) (hh md : Nat) (nf : Nat → Int64) : Prop := ∀ lv iv, lv ≤ hh → (iv + 1) * 2 ^ lv ≤ md → gp2 nf (2 ^ (hh - lv) + iv) = nv w1 w2 ov lv iv
def NOKp (w1 w2 ov : Int64) (hh md j : Nat) (nf : Nat → Int64) : Prop := ∀ lv iv, lv ≤ hh → (iv + 1) * 2 ^ lv ≤ (if lv < j then md + 1 else md) → gp2 nf (2 ^ (hh - lv) + iv) = nv w1 w2 ov lv iv
theorem NOK_0 {w1 w2 ov : Int64} {hh : Nat} {nf : Nat → Int64} : NOK w1 w2 ov hh 0 nf := fun lv iv _ h => absurd h (by
  have := Nat.mul_pos (show 0 < iv + 1 by omega) (Nat.two_pow_pos lv)
  omega)
theorem p2_le {j : Nat} (h : j ≤ 4) : 2 ^ j ≤ 16 := by
  have := Nat.pow_le_pow_right (n := 2) (by decide) h
  exact this
theorem slot_bd {hh lv iv md : Nat} (hl : lv ≤ hh) (hm : md ≤ 2 ^ hh) (h : (iv + 1) * 2 ^ lv ≤ md) : iv < 2 ^ (hh - lv) := by
  have h1 : (iv + 1) * 2 ^ lv ≤ 2 ^ (hh - lv) * 2 ^ lv := by
    rw [← Nat.pow_add, Nat.sub_add_cancel hl]
    omega
  exact Nat.le_of_mul_le_mul_right h1 (Nat.two_pow_pos lv)
theorem tslot_ne {hh lv j iv k : Nat} (hl : lv ≤ hh) (hj : j ≤ hh) (h1 : iv < 2 ^ (hh - lv)) (h2 : k < 2 ^ (hh - j)) (hne : lv ≠ j) : 2 ^ (hh - lv) + iv ≠ 2 ^ (hh - j) + k := by
  rcases Nat.lt_or_gt_of_ne hne with h | h
  · have h3 := Nat.pow_le_pow_right (n := 2) (by decide) (show hh - j + 1 ≤ hh - lv by omega)
    rw [Nat.pow_succ] at h3
    omega
  · have h3 := Nat.pow_le_pow_right (n := 2) (by decide) (show hh - lv + 1 ≤ hh - j by omega)
    rw [Nat.pow_succ] at h3
    omega
theorem slot_lt {hh lv iv md : Nat} (h4 : hh ≤ 4) (hl : lv ≤ hh) (hm : md ≤ 2 ^ hh) (h : (iv + 1) * 2 ^ lv ≤ md) : 2 ^ (hh - lv) + iv < 32 := by
  have h1 := slot_bd hl hm h
  have h2 := p2_le (show hh - lv ≤ 4 by omega)
  omega
theorem nok_leaf {w1 w2 ov : Int64} {hh md : Nat} {nf : Nat → Int64} (h : NOK w1 w2 ov hh md nf) (hm : md < 2 ^ hh) : NOKp w1 w2 ov hh md 1 (setP nf (2 ^ (hh - 0) + md) (nv w1 w2 ov 0 md)) := by
  intro lv iv hl hi
  by_cases h0 : lv = 0
  · subst h0
    rw [if_pos (by decide), Nat.pow_zero, Nat.mul_one] at hi
    by_cases he : iv = md
    · subst he; exact gp2_s _ _ _
    · rw [gp2_n _ _ (by omega)]
      exact h 0 iv hl (by rw [Nat.pow_zero, Nat.mul_one]; omega)
  · rw [if_neg (by omega)] at hi
    rw [gp2_n _ _ (tslot_ne hl (Nat.zero_le _) (slot_bd hl (by omega) hi) hm h0)]
    exact h lv iv hl hi
theorem up_eq {md j : Nat} (hd : (md + 1) % 2 ^ j = 0) : 1 ≤ (md + 1) / 2 ^ j ∧ ((md + 1) / 2 ^ j - 1 + 1) * 2 ^ j = md + 1 := by
  have h1 := Nat.div_add_mod (md + 1) (2 ^ j)
  rw [hd, Nat.add_zero] at h1
  have h2 : 1 ≤ (md + 1) / 2 ^ j := by
    rcases Nat.eq_zero_or_pos ((md + 1) / 2 ^ j) with h | h
    · rw [h, Nat.mul_zero] at h1; omega
    · exact h
  refine ⟨h2, ?_⟩
  rw [Nat.sub_add_cancel h2, Nat.mul_comm]
  exact h1
theorem two_up {i j : Nat} (hj : 1 ≤ j) : (2 * i + 1 + 1) * 2 ^ (j - 1) = (i + 1) * 2 ^ j := by
  have h1 : 2 ^ j = 2 * 2 ^ (j - 1) := by
    rw [← Nat.pow_succ']
    congr 1
    omega
  have h2 : 2 * i + 1 + 1 = (i + 1) * 2 := by omega
  rw [h1, h2, Nat.mul_assoc]
theorem nok_kids {w1 w2 ov : Int64} {hh md j i : Nat} {nf : Nat → Int64} (h : NOKp w1 w2 ov hh md j nf) (hj : 1 ≤ j) (hjh : j ≤ hh) (hi : (i + 1) * 2 ^ j = md + 1) : nd ov j i (gp2 nf (2 ^ (hh - (j - 1)) + 2 * i)) (gp2 nf (2 ^ (hh - (j - 1)) + (2 * i + 1))) = nv w1 w2 ov j i := by
  have h2 := two_up (i := i) hj
  have hp := Nat.two_pow_pos (j - 1)
  rw [h (j - 1) (2 * i + 1) (by omega) (by rw [if_pos (by omega), h2, hi]; exact Nat.le_refl _), h (j - 1) (2 * i) (by omega) (by
    rw [if_pos (by omega)]
    have h3 : (2 * i + 1) * 2 ^ (j - 1) ≤ (2 * i + 1 + 1) * 2 ^ (j - 1) := Nat.mul_le_mul_right _ (by omega)
    omega)]
  obtain ⟨k, rfl⟩ : ∃ k, j = k + 1 := ⟨j - 1, by omega⟩
  rfl
theorem nok_step {w1 w2 ov : Int64} {hh md j i : Nat} {nf : Nat → Int64} (h : NOKp w1 w2 ov hh md j nf) (hjh : j ≤ hh) (hm : md < 2 ^ hh) (hi : (i + 1) * 2 ^ j = md + 1) : NOKp w1 w2 ov hh md (j + 1) (setP nf (2 ^ (hh - j) + i) (nv w1 w2 ov j i)) := by
  intro lv iv hl hv
  have hb : i < 2 ^ (hh - j) := slot_bd hjh (show md + 1 ≤ 2 ^ hh by omega) (by omega)
  by_cases h0 : lv = j
  · subst h0
    rw [if_pos (by omega)] at hv
    by_cases he : iv = i
    · subst he; exact gp2_s _ _ _
    · rw [gp2_n _ _ (by omega)]
      refine h lv iv hl ?_
      rw [if_neg (by omega)]
      have h1 : iv + 1 ≤ i + 1 := Nat.le_of_mul_le_mul_right (show (iv + 1) * 2 ^ lv ≤ (i + 1) * 2 ^ lv by omega) (Nat.two_pow_pos lv)
      have h2 : (iv + 1) * 2 ^ lv ≤ i * 2 ^ lv := Nat.mul_le_mul_right _ (by omega)
      have h3 : (i + 1) * 2 ^ lv = i * 2 ^ lv + 2 ^ lv := Nat.succ_mul _ _
      have h4 := Nat.two_pow_pos lv
      omega
  · have hv2 : (iv + 1) * 2 ^ lv ≤ (if lv < j then md + 1 else md) := by
      by_cases h1 : lv < j
      · rw [if_pos h1]; rw [if_pos (by omega)] at hv; exact hv
      · rw [if_neg h1]; rw [if_neg (by omega)] at hv; exact hv
    have hb2 : iv < 2 ^ (hh - lv) := slot_bd hl (show md + 1 ≤ 2 ^ hh by omega) (by
      by_cases h1 : lv < j
      · rw [if_pos h1] at hv2; exact hv2
      · rw [if_neg h1] at hv2; omega)
    rw [gp2_n _ _ (tslot_ne hl hjh hb2 hb h0)]
    exact h lv iv hl hv2
theorem nok_brk {w1 w2 ov : Int64} {hh md j : Nat} {nf : Nat → Int64} (h : NOKp w1 w2 ov hh md j nf) (hd : ¬ (md + 1) % 2 ^ j = 0) : NOK w1 w2 ov hh (md + 1) nf := by
  intro lv iv hl hv
  refine h lv iv hl ?_
  by_cases h1 : lv < j
  · rw [if_pos h1]; exact hv
  · rw [if_neg h1]
    rcases Nat.lt_or_ge ((iv + 1) * 2 ^ lv) (md + 1) with h2 | h2
    · omega
    · have h3 : md + 1 = (iv + 1) * 2 ^ lv := by omega
      refine absurd ?_ hd
      rw [h3, show lv = j + (lv - j) by omega, Nat.pow_add, ← Nat.mul_assoc, Nat.mul_right_comm]
      exact Nat.mul_mod_left _ _
theorem nok_end {w1 w2 ov : Int64} {hh md : Nat} {nf : Nat → Int64} (h : NOKp w1 w2 ov hh md (hh + 1) nf) : NOK w1 w2 ov hh (md + 1) nf := by
  intro lv iv hl hv
  exact h lv iv hl (by rw [if_pos (by omega)]; exact hv)
theorem nok_bd {hh md j i : Nat} (h4 : hh ≤ 4) (hj : 1 ≤ j) (hjh : j ≤ hh) (hm : md < 2 ^ hh) (hi : (i + 1) * 2 ^ j = md + 1) : 2 ^ (hh - (j - 1)) + (2 * i + 1) < 32 := slot_lt (md := md + 1) h4 (by omega) (by omega) (by rw [two_up hj, hi]; exact Nat.le_refl _)
theorem nok_bd2 {hh md j i : Nat} (h4 : hh ≤ 4) (hjh : j ≤ hh) (hm : md < 2 ^ hh) (hi : (i + 1) * 2 ^ j = md + 1) : 2 ^ (hh - j) + i < 32 := slot_lt (md := md + 1) h4 hjh (by omega) (by omega)
theorem nok_leafv (w1 w2 ov : Int64) (lf : Nat) (ev : Nat → Int64) : hm (ha (ha (lN 3, lN 72) ov) (lN lf)) (mkT (pr (fun c => plc w1 w2 ov lf c 15)) 70 ev) 70 = nv w1 w2 ov 0 lf := by
  rw [hm_congr 70 (fun k hk => mkT_lt hk)]
  exact hm_pr _ _ 35
end
section
/-! the answers of the calls, in numbers -/
theorem nar_b (x : Bool) : narrow .boolean (.int (bI x)) = .int (bI x) := by cases x <;> decide
theorem fit_b (x : Bool) : fits .boolean (.int (bI x)) = true := by cases x <;> decide
theorem i_le {a : Nat} (h : a < 2 ^ 31) {x : Int32} (h0 : ¬ x < 0) (h1 : ¬ nI a ≤ x) : ∃ j, j < a ∧ x = nI j := by
  obtain ⟨j, hj, rfl⟩ := nI_of h0
  rw [q_le h hj] at h1
  exact ⟨j, by omega, rfl⟩
theorem isM_get {hh md : Nat} {xl xi : Int32} (h4 : hh ≤ 4) (h : isMB hh md xl xi = true) : ∃ lv iv, lv ≤ hh ∧ iv < 2 ^ 31 ∧ (iv + 1) * 2 ^ lv ≤ md ∧ xl = nI lv ∧ xi = nI iv := by
  have h2 := isMB_iff.mp h
  obtain ⟨lv, hlv, rfl⟩ := isM_lv h2.1 h2.2.1 h4
  obtain ⟨iv, hiv, rfl⟩ := nI_of h2.2.2.1
  exact ⟨lv, iv, hlv, hiv, ((isMB_nat (by omega) (by omega) hiv).mp h).2, rfl, rfl⟩
theorem half_get {x : Int32} (h : x = 0 ∨ x = nI 1) : ∃ hf, hf ≤ 1 ∧ x = nI hf := by
  rcases h with rfl | rfl
  · exact ⟨0, by decide, nI_0.symm⟩
  · exact ⟨1, by decide, rfl⟩
theorem half_of {hf : Nat} (h : hf ≤ 1) : nI hf = 0 ∨ nI hf = nI 1 := by
  rcases (show hf = 0 ∨ hf = 1 by omega) with rfl | rfl
  · exact Or.inl nI_0
  · exact Or.inr rfl
theorem bf_not {x : Bool} (h : ¬ x = false) : x = true := by cases x <;> simp at h ⊢
theorem db_f {P : Prop} [Decidable P] (h : decide P = false) : ¬ P := of_decide_eq_false h
theorem db_t {P : Prop} [Decidable P] (h : ¬ decide P = false) : P := of_decide_eq_true (bf_not h)
/-- half hf of a pair -/
def hlf (x : Int32) (v : Int64 × Int64) : Int64 := if x = 0 then v.1 else v.2
theorem hlf_at (f : Nat → Int64) (k : Nat) {hf : Nat} (h : hf ≤ 1) : f (2 * k + hf) = hlf (nI hf) (gp2 f k) := by
  rcases (show hf = 0 ∨ hf = 1 by omega) with rfl | rfl
  · rfl
  · rfl
def ndA (w1 w2 ov : Int64) (hh md : Nat) (xl xi xh : Int32) : Int64 := if (xh = 0 ∨ xh = nI 1) ∧ isMB hh md xl xi = true then hlf xh (nv w1 w2 ov xl.toNatClampNeg xi.toNatClampNeg) else lN 0
theorem ndA_y {w1 w2 ov : Int64} {hh md lv iv hf : Nat} (h4 : hh ≤ 4) (hf1 : hf ≤ 1) (hl : lv ≤ hh) (hi : iv < 2 ^ 31) (h : (iv + 1) * 2 ^ lv ≤ md) : ndA w1 w2 ov hh md (nI lv) (nI iv) (nI hf) = hlf (nI hf) (nv w1 w2 ov lv iv) := by
  unfold ndA
  rw [if_pos ⟨half_of hf1, (isMB_nat (by omega) (by omega) hi).mpr ⟨hl, h⟩⟩, nI_clamp (by omega), nI_clamp hi]
theorem ndA_n {w1 w2 ov : Int64} {hh md : Nat} {xl xi xh : Int32} (h : ¬ ((xh = 0 ∨ xh = nI 1) ∧ isMB hh md xl xi = true)) : lN 0 = ndA w1 w2 ov hh md xl xi xh := by
  unfold ndA
  rw [if_neg h]
theorem isMB_root {hh md : Nat} (h4 : hh ≤ 4) : isMB hh md (nI hh) (nI 0) = decide (2 ^ hh ≤ md) := by
  have h := isMB_nat (hh := hh) (md := md) (lv := hh) (iv := 0) (by omega) (by omega) (by decide)
  by_cases h1 : 2 ^ hh ≤ md
  · rw [decide_eq_true h1]
    exact h.mpr ⟨Nat.le_refl _, by omega⟩
  · rw [decide_eq_false h1]
    cases h2 : isMB hh md (nI hh) (nI 0)
    · rfl
    · have := (h.mp h2).2
      omega
theorem NOK_root {w1 w2 ov : Int64} {hh md : Nat} {nf : Nat → Int64} (h : NOK w1 w2 ov hh md nf) (hm : 2 ^ hh ≤ md) : gp2 nf 1 = nv w1 w2 ov hh 0 := by
  have h1 := h hh 0 (Nat.le_refl _) (by omega)
  rw [Nat.sub_self] at h1
  exact h1
/-- the digest with a leaf and the signer's own root -/
def dgr (w1 w2 ov : Int64) (hh lf : Nat) (mv : Nat → Int64) (ln : Nat) : Int64 × Int64 := dgs ov lf (nv w1 w2 ov hh 0).1 (nv w1 w2 ov hh 0).2 mv ln
def dgA (w1 w2 ov : Int64) (hh md : Nat) (mv : Nat → Int64) (ln : Nat) (xl xk : Int32) : Int32 := if (¬ xl < 0 ∧ ¬ nI (2 ^ hh) ≤ xl) ∧ (¬ xk < 0 ∧ ¬ nI 35 ≤ xk) ∧ 2 ^ hh ≤ md then nI (digs (dgr w1 w2 ov hh xl.toNatClampNeg mv ln) xk.toNatClampNeg) else -1
theorem dgA_n {w1 w2 ov : Int64} {hh md : Nat} {mv : Nat → Int64} {ln : Nat} {xl xk : Int32} (h : ¬ ((¬ xl < 0 ∧ ¬ nI (2 ^ hh) ≤ xl) ∧ (¬ xk < 0 ∧ ¬ nI 35 ≤ xk) ∧ 2 ^ hh ≤ md)) : -1 = dgA w1 w2 ov hh md mv ln xl xk := by
  unfold dgA
  rw [if_neg h]
theorem dgA_y {w1 w2 ov : Int64} {hh md : Nat} {mv : Nat → Int64} {ln lf k : Nat} (h4 : hh ≤ 4) (h1 : lf < 2 ^ hh) (h2 : k < 35) (h3 : 2 ^ hh ≤ md) : nI (digs (dgr w1 w2 ov hh lf mv ln) k) = dgA w1 w2 ov hh md mv ln (nI lf) (nI k) := by
  have hp := p2_le h4
  unfold dgA
  rw [if_pos ⟨⟨by rw [q_lt0 (by omega)]; omega, by rw [q_le (by omega) (by omega)]; omega⟩, ⟨by rw [q_lt0 (by omega)]; omega, by rw [q_le (by omega) (by omega)]; omega⟩, h3⟩, nI_clamp (by omega), nI_clamp (by omega)]
theorem mn_i {a b : Nat} (ha : a < 2 ^ 31) (hb : b < 2 ^ 31) : (if nI b < nI a then nI b else nI a) = nI (min a b) := by
  by_cases h : b < a
  · rw [if_pos (by rw [q_lt hb ha]; exact h), Nat.min_eq_right (by omega)]
  · rw [if_neg (by rw [q_lt hb ha]; exact h), Nat.min_eq_left (by omega)]
/-- the leaf's neighbour on a level -/
def sib (lf lv : Nat) : Nat := (lf / 2 ^ lv) ^^^ 1
def sgE (w1 w2 ov : Int64) (hh lf : Nat) (mv : Nat → Int64) (ln : Nat) : Nat → Int64 × Int64 := fun c => if c < 35 then plc w1 w2 ov lf c (digs (dgr w1 w2 ov hh lf mv ln) c) else nv w1 w2 ov (c - 35) (sib lf (c - 35))
theorem xor1 (n : Nat) : n ^^^ 1 = if n % 2 = 0 then n + 1 else n - 1 := by
  have h0 : n = 2 * (n / 2) + n % 2 := by omega
  rcases (show n % 2 = 0 ∨ n % 2 = 1 by omega) with h | h
  · rw [if_pos h]
    apply Nat.eq_of_testBit_eq
    intro i
    rw [Nat.testBit_xor]
    cases i with
    | zero => rw [Nat.testBit_zero, Nat.testBit_zero, Nat.testBit_zero]; have h1 : (n + 1) % 2 = 1 := by omega
              simp [h, h1]
    | succ i => rw [Nat.testBit_succ, Nat.testBit_succ, Nat.testBit_succ, show (n + 1) / 2 = n / 2 by omega]; simp
  · rw [if_neg (by omega)]
    apply Nat.eq_of_testBit_eq
    intro i
    rw [Nat.testBit_xor]
    cases i with
    | zero => rw [Nat.testBit_zero, Nat.testBit_zero, Nat.testBit_zero]; have h1 : (n - 1) % 2 = 0 := by omega
              simp [h, h1]
    | succ i => rw [Nat.testBit_succ, Nat.testBit_succ, Nat.testBit_succ, show (n - 1) / 2 = n / 2 by omega]; simp
theorem xor1_pow {a i : Nat} (ha : 1 ≤ a) : (2 ^ a + i) ^^^ 1 = 2 ^ a + (i ^^^ 1) := by
  obtain ⟨k, rfl⟩ : ∃ k, a = k + 1 := ⟨a - 1, by omega⟩
  rw [Nat.pow_succ, xor1, xor1]
  rcases (show i % 2 = 0 ∨ i % 2 = 1 by omega) with h | h
  · rw [if_pos (by omega), if_pos h]; omega
  · rw [if_neg (by omega), if_neg (by omega)]; omega
theorem sib_lt {hh lf lv : Nat} (hl : lv < hh) (h : lf < 2 ^ hh) : sib lf lv < 2 ^ (hh - lv) := by
  have h1 : lf / 2 ^ lv < 2 ^ (hh - lv) := by
    rw [Nat.div_lt_iff_lt_mul (Nat.two_pow_pos lv), ← Nat.pow_add, Nat.sub_add_cancel (by omega)]
    exact h
  obtain ⟨k, hk⟩ : ∃ k, hh - lv = k + 1 := ⟨hh - lv - 1, by omega⟩
  unfold sib
  rw [hk, Nat.pow_succ] at h1 ⊢
  have hp := Nat.two_pow_pos k
  generalize lf / 2 ^ lv = q at h1 ⊢
  generalize 2 ^ k = P at h1 hp ⊢
  rw [xor1]
  split <;> omega
theorem sib_ok {hh lf lv md : Nat} (hl : lv < hh) (h : lf < 2 ^ hh) (hm : 2 ^ hh ≤ md) : (sib lf lv + 1) * 2 ^ lv ≤ md := by
  have h1 := sib_lt hl h
  have h2 : (sib lf lv + 1) * 2 ^ lv ≤ 2 ^ (hh - lv) * 2 ^ lv := Nat.mul_le_mul_right _ h1
  rw [← Nat.pow_add, Nat.sub_add_cancel (by omega)] at h2
  omega
/-- from the leaf's value up to a root, by the nodes beside -/
def clb (ov : Int64) (lf : Nat) (PP : Nat → Int64 × Int64) (v : Int64 × Int64) : Nat → Int64 × Int64
  | 0 => v
  | n + 1 => if lf / 2 ^ n % 2 = 0 then nd ov (n + 1) (lf / 2 ^ (n + 1)) (clb ov lf PP v n) (PP (35 + n)) else nd ov (n + 1) (lf / 2 ^ (n + 1)) (PP (35 + n)) (clb ov lf PP v n)
def vrE (ov : Int64) (lf : Nat) (PP : Nat → Int64 × Int64) (D : Int64 × Int64) : Nat → Int64 × Int64 := fun c => cry ov lf c (PP c) (digs D c) (15 - digs D c)
def vrR (ov : Int64) (hh lf : Nat) (PP : Nat → Int64 × Int64) (ta tb : Int64) (mv : Nat → Int64) (ln : Nat) : Int64 × Int64 := clb ov lf PP (lfv ov lf (vrE ov lf PP (dgs ov lf ta tb mv ln))) hh
def vrA (ov : Int64) (hh lf : Nat) (PP : Nat → Int64 × Int64) (ta tb : Int64) (mv : Nat → Int64) (ln : Nat) : Int32 := if ta = (vrR ov hh lf PP ta tb mv ln).1 ∧ tb = (vrR ov hh lf PP ta tb mv ln).2 then nI 0 else nI 2
theorem gp2_pr (E : Nat → Int64 × Int64) (k : Nat) : gp2 (pr E) k = E k := by
  unfold gp2
  rw [pr_1, pr_2]
theorem mkT_pr (E F : Nat → Int64 × Int64) (n : Nat) : mkT (pr E) (2 * n) (pr F) = pr (mkT E n F) := by
  funext j
  rcases (show j % 2 = 0 ∨ j % 2 = 1 by omega) with h | h
  · rw [show j = 2 * (j / 2) by omega, pr_1]
    by_cases h2 : j / 2 < n
    · rw [mkT_lt (by omega), mkT_lt h2, pr_1]
    · rw [mkT_ge (by omega), mkT_ge (by omega), pr_1]
  · rw [show j = 2 * (j / 2) + 1 by omega, pr_2]
    by_cases h2 : j / 2 < n
    · rw [mkT_lt (by omega), mkT_lt h2, pr_2]
    · rw [mkT_ge (by omega), mkT_ge (by omega), pr_2]
def upP (PP : Nat → Int64 × Int64) (k hf : Nat) (x : Int64) : Nat → Int64 × Int64 := fun j => if j = k then (if hf = 0 then (x, (PP k).2) else ((PP k).1, x)) else PP j
theorem upP_pr (PP : Nat → Int64 × Int64) (k : Nat) {hf : Nat} (h : hf ≤ 1) (x : Int64) : vp_updL (pr PP) (2 * k + hf) x = pr (upP PP k hf x) := by
  funext j
  rcases (show j % 2 = 0 ∨ j % 2 = 1 by omega) with h0 | h0
  · rw [show j = 2 * (j / 2) by omega, pr_1]
    by_cases h2 : j / 2 = k
    · rcases (show hf = 0 ∨ hf = 1 by omega) with rfl | rfl
      · rw [h2]; simp [upP, vp_updL]
      · rw [h2, pk_uLn (by omega), pr_1]; simp [upP]
    · rw [pk_uLn (by omega), pr_1]; simp [upP, h2]
  · rw [show j = 2 * (j / 2) + 1 by omega, pr_2]
    by_cases h2 : j / 2 = k
    · rcases (show hf = 0 ∨ hf = 1 by omega) with rfl | rfl
      · rw [h2, pk_uLn (by omega), pr_2]; simp [upP]
      · rw [h2]; simp [upP, vp_updL]
    · rw [pk_uLn (by omega), pr_2]; simp [upP, h2]
def ptA (PP : Nat → Int64 × Int64) (sn : Nat) (xk xh : Int32) : Int64 := if (xh = 0 ∨ xh = nI 1) ∧ (¬ xk < 0 ∧ ¬ nI sn ≤ xk) then hlf xh (PP xk.toNatClampNeg) else lN 0
theorem ptA_y {PP : Nat → Int64 × Int64} {sn k hf : Nat} (hs : sn < 2 ^ 31) (hf1 : hf ≤ 1) (h : k < sn) : hlf (nI hf) (PP k) = ptA PP sn (nI k) (nI hf) := by
  unfold ptA
  rw [if_pos ⟨half_of hf1, by rw [q_lt0 (by omega)]; omega, by rw [q_le hs (by omega)]; omega⟩, nI_clamp (by omega)]
theorem ptA_n {PP : Nat → Int64 × Int64} {sn : Nat} {xk xh : Int32} (h : ¬ ((xh = 0 ∨ xh = nI 1) ∧ (¬ xk < 0 ∧ ¬ nI sn ≤ xk))) : lN 0 = ptA PP sn xk xh := by
  unfold ptA
  rw [if_neg h]
def hsA (kv : Int32) (mv : Nat → Int64) (ln : Nat) (xh : Int32) : Int64 := if xh = 0 then (hm (kv.toInt64, lN ln) mv ln).1 else if xh = nI 1 then (hm (kv.toInt64, lN ln) mv ln).2 else lN 0
def ctA (hh md us ln : Nat) (xn x : Int32) : Int32 := if x = nI 0 then nI (2 ^ hh) else if x = nI 1 then nI md else if x = nI 2 then nI us else if x = nI 3 then nI ln else if x = nI 4 then xn else -1
theorem sw_out {x : Int32} (h0 : ¬ x = nI 0) (h1 : ¬ x = nI 1) (h2 : ¬ x = nI 2) (h3 : ¬ x = nI 3) (h4 : ¬ x = nI 4) : x.toInt < 0 ∨ 4 < x.toInt := by
  by_cases h : x < 0
  · exact Or.inl (by rw [Int32.lt_iff_toInt_lt] at h; exact h)
  · obtain ⟨j, hj, rfl⟩ := nI_of h
    rw [nI_toInt hj]
    refine Or.inr ?_
    rcases Nat.lt_or_ge j 5 with h5 | h5
    · rcases (show j = 0 ∨ j = 1 ∨ j = 2 ∨ j = 3 ∨ j = 4 by omega) with rfl | rfl | rfl | rfl | rfl
      · exact absurd rfl h0
      · exact absurd rfl h1
      · exact absurd rfl h2
      · exact absurd rfl h3
      · exact absurd rfl h4
    · omega
end
section
set_option maxHeartbeats 4000000 in
set_option maxRecDepth 100000 in
/-- the mixed long -/
theorem c_Hasher_mixed (l : Launch) (dC : Nat → ClassId) (dI : Nat → Nat → Nat) (cJ cI : ClassId) (xv : Int64) (sz : Nat) : Met l yX2_mixed wsX2_mixed ({ frames := 0, cells := 0, slots := 0, locals := 0 }) (va_Pc [.long xv] (st_B (dC, dI) vwCl [(cJ, .long), (cI, .int)] [] sz)) (va_Ql (fun (r : Int64) (_ : Unit) => r = mxL xv) (st_E (dC, dI) vwCl [(cJ, .long), (cI, .int)] (va_A [] sz) (fun _ => [])) (va_A [] sz)) 0 0 (va_A [] sz) := by
  refine Met.ofW (cc := cX2_mixed) (maxL := 6) (ret := (some .long)) (by decide) rfl ?_
  intro p e s m args below meth c s₁ B hml hv
  obtain ⟨rfl, hsz, hP, hK, hD0⟩ := hv
  have hx := B.exec
  have hb := B.bytes
  have hr := B.returns
  have hts := atoms_spec (ws := wsX2_mixed) B.pre
  have hown : s.vm.findClass RX2 = some m.cls := findClass_of_methodNamed B.named
  have hlocks := B.notSynchronized
  subst hsz
  have hD := hD0.self (sz := s.heap.size)
  generalize hAe : va_A [] s.heap.size = A at hD ⊢
  have hA : ∀ q : Nat, s.heap.size ≤ q → A q := fun q h => by rw [← hAe]; exact Or.inr h
  have hS : va_S A s.heap s.heap [] := va_S.rf
  have hP : va_P (dC, dI) vwCl [] s.heap := hP
  have hl := lv_entry ([.long xv]) (n := 6) (Nat.le_of_ble_eq_true rfl)
  rw [lg_entry_eq]
  generalize (lg_sl ([.long xv]) ++ List.replicate (6 - (lg_sl ([.long xv])).length) Slot.unset).toArray = ls at hl ⊢
  have hl : lv_has ls 6 [(0, .long xv)] := hl
  refine lv_lload_n hx hb dX2_mixed_0 rfl (lv_at hl 0 rfl) ?_
  refine lv_lload_n hx hb dX2_mixed_1 rfl (lv_at hl 0 rfl) ?_
  refine lv_bipush (v := nI 30) hx hb dX2_mixed_2 (by decide) ?_
  refine lv_lushr (v := (xv.toUInt64 >>> ((nI 30).toInt64.toUInt64 &&& Int64.toUInt64 63)).toInt64) hx hb dX2_mixed_4 rfl ?_
  refine lv_lxor hx hb dX2_mixed_5 ?_
  refine lv_ldc2 hx hb hown (hts (.constantLong RX2 54 (-4658895280553007687)) (by decide +kernel)) dX2_mixed_6 ?_
  refine lv_lmul hx hb dX2_mixed_9 ?_
  refine st_l (y := mx1 xv) (rfl) ?_
  refine lv_lstore_n (lv' := [(2, .long (mx1 xv)), (0, .long xv)]) hx hb dX2_mixed_10 rfl hl (by decide) rfl (fun ls hl => ?_)
  refine lv_lload_n hx hb dX2_mixed_11 rfl (lv_at hl 0 rfl) ?_
  refine lv_lload_n hx hb dX2_mixed_12 rfl (lv_at hl 0 rfl) ?_
  refine lv_bipush (v := nI 27) hx hb dX2_mixed_13 (by decide) ?_
  refine lv_lushr (v := ((mx1 xv).toUInt64 >>> ((nI 27).toInt64.toUInt64 &&& Int64.toUInt64 63)).toInt64) hx hb dX2_mixed_15 rfl ?_
  refine lv_lxor hx hb dX2_mixed_16 ?_
  refine lv_ldc2 hx hb hown (hts (.constantLong RX2 56 (-7723592293110705685)) (by decide +kernel)) dX2_mixed_17 ?_
  refine lv_lmul hx hb dX2_mixed_20 ?_
  refine st_l (y := mx2 (mx1 xv)) (rfl) ?_
  refine lv_lstore (lv' := [(4, .long (mx2 (mx1 xv))), (2, .long (mx1 xv)), (0, .long xv)]) hx hb dX2_mixed_21 hl (by decide) rfl (fun ls hl => ?_)
  refine lv_lload hx hb dX2_mixed_23 (lv_at hl 0 rfl) ?_
  refine lv_lload hx hb dX2_mixed_25 (lv_at hl 0 rfl) ?_
  refine lv_bipush (v := nI 31) hx hb dX2_mixed_27 (by decide) ?_
  refine lv_lushr (v := ((mx2 (mx1 xv)).toUInt64 >>> ((nI 31).toInt64.toUInt64 &&& Int64.toUInt64 63)).toInt64) hx hb dX2_mixed_29 rfl ?_
  refine lv_lxor hx hb dX2_mixed_30 ?_
  refine st_l (y := mxL xv) (rfl) ?_
  exact W.lret (v := mxL xv) hx hb hr (fun t ht hW => ⟨⟨mxL xv, (), rfl, rfl, by rw [ht]; exact hP, va_K.moved hW.alike hK, hD⟩, hS.F ht⟩) hS.2.2 dX2_mixed_31

set_option maxHeartbeats 4000000 in
set_option maxRecDepth 100000 in
/-- the hash of a kind of n longs, at first -/
theorem c_Hasher_start (l : Launch) (dC : Nat → ClassId) (dI : Nat → Nat → Nat) (cJ cI : ClassId) (h0 : Nat) (pv : Int64 × Int64) (kv nv : Int32) (ka na : Int64) (hka : kv.toInt64 = ka) (hna : nv.toInt64 = na) (sz : Nat) : Met l yX2_start wsX2_start ({ frames := 0, cells := 0, slots := 0, locals := 0 }) (va_Pc [.ref h0, .int kv, .int nv] (st_B (dC, dI) vwCl [(cJ, .long), (cI, .int)] [(h0, .inr (2, [.long pv.1, .long pv.2]))] sz)) (va_Qv (fun _ : Unit => True) (st_E (dC, dI) vwCl [(cJ, .long), (cI, .int)] (va_A [(h0, .inr (2, [.long pv.1, .long pv.2]))] sz) (fun _ => [(h0, .inr (2, [.long ka, .long na]))])) (va_A [(h0, .inr (2, [.long pv.1, .long pv.2]))] sz)) 0 0 (va_A [(h0, .inr (2, [.long pv.1, .long pv.2]))] sz) := by
  refine Met.ofW (cc := cX2_start) (maxL := 3) (ret := none) (by decide) rfl ?_
  intro p e s m args below meth c s₁ B hml hv
  obtain ⟨rfl, hsz, hP, hK, hD0⟩ := hv
  have hx := B.exec
  have hb := B.bytes
  have hr := B.returns
  have hts := atoms_spec (ws := wsX2_start) B.pre
  have hown : s.vm.findClass RX2 = some m.cls := findClass_of_methodNamed B.named
  have hlocks := B.notSynchronized
  subst hsz
  have hD := hD0.self (sz := s.heap.size)
  generalize hAe : va_A [(h0, .inr (2, [.long pv.1, .long pv.2]))] s.heap.size = A at hD ⊢
  have hA : ∀ q : Nat, s.heap.size ≤ q → A q := fun q h => by rw [← hAe]; exact Or.inr h
  have hS : va_S A s.heap s.heap [] := va_S.rf
  have hP : va_P (dC, dI) vwCl [(h0, .inr (2, [.long pv.1, .long pv.2]))] s.heap := hP
  have hl := lv_entry ([.ref h0, .int kv, .int nv]) (n := 3) (Nat.le_of_ble_eq_true rfl)
  rw [lg_entry_eq]
  generalize (lg_sl ([.ref h0, .int kv, .int nv]) ++ List.replicate (3 - (lg_sl ([.ref h0, .int kv, .int nv])).length) Slot.unset).toArray = ls at hl ⊢
  have iX2 : ∀ w ∈ wsX20, w ∈ wsX2_start := by decide +kernel
  have f9 := hts (.fieldLink RX2 9 "LeafSigner$Hasher" "a" "J") (by decide +kernel)
  have f15 := hts (.fieldLink RX2 15 "LeafSigner$Hasher" "b" "J") (by decide +kernel)
  have hl : lv_has ls 3 [(0, .ref h0), (1, .int kv), (2, .int nv)] := hl
  refine lv_aload_n hx hb dX2_start_0 rfl (lv_at hl 0 rfl) ?_
  refine lv_iload_n hx hb dX2_start_1 rfl (lv_at hl 1 rfl) ?_
  refine lv_i2l (v := kv.toInt64) hx hb dX2_start_2 rfl ?_
  refine st_l (y := ka) (hka) ?_
  refine va_put (D := (dC, dI)) (ci := 2) (v := .long ka) (ty := .long) (C := RX2) (T := TX2) (N := 2) hx hb hts iX2 tyX2 tyX2_ok nmX2 hown hK hP hD hS 0 rfl rfl 0 (by decide) f9 (fun _ h9 => h9) rfl (by decide +kernel) rfl rfl (Nat.le_of_ble_eq_true rfl) dX2_start_3 (fun H locs hP hD hS => ?_)
  have hP : va_P (dC, dI) vwCl [(h0, .inr (2, [.long ka, .long pv.2]))] H := hP
  have hD : va_D A [(h0, .inr (2, [.long ka, .long pv.2]))] := hD
  refine lv_aload_n hx hb dX2_start_6 rfl (lv_at hl 0 rfl) ?_
  refine lv_iload_n hx hb dX2_start_7 rfl (lv_at hl 2 rfl) ?_
  refine lv_i2l (v := nv.toInt64) hx hb dX2_start_8 rfl ?_
  refine st_l (y := na) (hna) ?_
  refine va_put (D := (dC, dI)) (ci := 2) (v := .long na) (ty := .long) (C := RX2) (T := TX2) (N := 2) hx hb hts iX2 tyX2 tyX2_ok nmX2 hown hK hP hD hS 0 rfl rfl 1 (by decide) f15 (fun _ h9 => h9) rfl (by decide +kernel) rfl rfl (Nat.le_of_ble_eq_true rfl) dX2_start_9 (fun H locs hP hD hS => ?_)
  have hP : va_P (dC, dI) vwCl [(h0, .inr (2, [.long ka, .long na]))] H := hP
  have hD : va_D A [(h0, .inr (2, [.long ka, .long na]))] := hD
  exact W.vret hx hb hr (fun t ht hW => ⟨⟨(), rfl, trivial, by rw [ht]; exact hP, va_K.moved hW.alike hK, hD⟩, hS.F ht⟩) hS.2.2 dX2_start_12

set_option maxHeartbeats 4000000 in
set_option maxRecDepth 100000 in
/-- one long more -/
theorem c_Hasher_add (l : Launch) (dC : Nat → ClassId) (dI : Nat → Nat → Nat) (cJ cI : ClassId) (h0 : Nat) (pv : Int64 × Int64) (xv : Int64) (sz : Nat) : Met l yX2_add wsX2_add ({ frames := 1, cells := 0, slots := 0, locals := 25 }) (va_Pc [.ref h0, .long xv] (st_B (dC, dI) vwCl [(cJ, .long), (cI, .int)] [(h0, .inr (2, [.long pv.1, .long pv.2]))] sz)) (va_Qv (fun _ : Unit => True) (st_E (dC, dI) vwCl [(cJ, .long), (cI, .int)] (va_A [(h0, .inr (2, [.long pv.1, .long pv.2]))] sz) (fun _ => [(h0, .inr (2, [.long ((ha pv xv).1), .long ((ha pv xv).2)]))])) (va_A [(h0, .inr (2, [.long pv.1, .long pv.2]))] sz)) 0 0 (va_A [(h0, .inr (2, [.long pv.1, .long pv.2]))] sz) := by
  refine Met.ofW (cc := cX2_add) (maxL := 3) (ret := none) (by decide) rfl ?_
  intro p e s m args below meth c s₁ B hml hv
  obtain ⟨rfl, hsz, hP, hK, hD0⟩ := hv
  have hx := B.exec
  have hb := B.bytes
  have hr := B.returns
  have hts := atoms_spec (ws := wsX2_add) B.pre
  have hown : s.vm.findClass RX2 = some m.cls := findClass_of_methodNamed B.named
  have hlocks := B.notSynchronized
  subst hsz
  have hD := hD0.self (sz := s.heap.size)
  generalize hAe : va_A [(h0, .inr (2, [.long pv.1, .long pv.2]))] s.heap.size = A at hD ⊢
  have hA : ∀ q : Nat, s.heap.size ≤ q → A q := fun q h => by rw [← hAe]; exact Or.inr h
  have hS : va_S A s.heap s.heap [] := va_S.rf
  have hP : va_P (dC, dI) vwCl [(h0, .inr (2, [.long pv.1, .long pv.2]))] s.heap := hP
  have hl := lv_entry ([.ref h0, .long xv]) (n := 3) (Nat.le_of_ble_eq_true rfl)
  rw [lg_entry_eq]
  generalize (lg_sl ([.ref h0, .long xv]) ++ List.replicate (3 - (lg_sl ([.ref h0, .long xv])).length) Slot.unset).toArray = ls at hl ⊢
  have iX2 : ∀ w ∈ wsX20, w ∈ wsX2_add := by decide +kernel
  have f9 := hts (.fieldLink RX2 9 "LeafSigner$Hasher" "a" "J") (by decide +kernel)
  have f15 := hts (.fieldLink RX2 15 "LeafSigner$Hasher" "b" "J") (by decide +kernel)
  have hl : lv_has ls 3 [(0, .ref h0), (1, .long xv)] := hl
  refine lv_aload_n hx hb dX2_add_0 rfl (lv_at hl 0 rfl) ?_
  refine lv_aload_n hx hb dX2_add_1 rfl (lv_at hl 0 rfl) ?_
  refine va_get (D := (dC, dI)) (ci := 2) (v := .long pv.1) (C := RX2) (T := TX2) (N := 2) hx hb hts iX2 hown hK hP 0 rfl rfl 0 (by decide) f9 (fun _ h9 => h9) rfl dX2_add_2 ?_
  refine lv_lload_n hx hb dX2_add_5 rfl (lv_at hl 1 rfl) ?_
  refine lv_lxor hx hb dX2_add_6 ?_
  refine st_calll (va_runS (As := [.long (pv.1 ^^^ xv)]) (rest := [.ref h0]) ⟨hx, hb, hml, hown, hts⟩ (c_Hasher_mixed l dC dI cJ cI  (pv.1 ^^^ xv)  s.heap.size) (va_cwS 1 hts gX2_add_X2_mixed rfl rfl rfl (by decide +kernel) ⟨Nat.le_of_ble_eq_true rfl, Nat.le_of_ble_eq_true rfl⟩) (st_preS hK hP hD [] rfl rfl) rfl rfl hl.1 rfl (lv_room (Nat.le_of_ble_eq_true rfl)) dX2_add_7 ⟨Nat.le_of_ble_eq_true rfl, Nat.le_of_ble_eq_true rfl⟩) hP hD hS hA [] [0] (wr := [(h0, .inr (2, [.long pv.1, .long pv.2]))]) rfl rfl (by decide) (by decide) [0] (res := fun _ => [(h0, .inr (2, [.long pv.1, .long pv.2]))]) (fun _ => rfl) (by decide) (fun r_1 _ H locs hu hP hD hS => ?_)
  have hP : va_P (dC, dI) vwCl [(h0, .inr (2, [.long pv.1, .long pv.2]))] H := hP
  have hD : va_D A [(h0, .inr (2, [.long pv.1, .long pv.2]))] := hD
  subst hu
  refine va_put (D := (dC, dI)) (ci := 2) (v := .long (mxL (pv.1 ^^^ xv))) (ty := .long) (C := RX2) (T := TX2) (N := 2) hx hb hts iX2 tyX2 tyX2_ok nmX2 hown hK hP hD hS 0 rfl rfl 0 (by decide) f9 (fun _ h9 => h9) rfl (by decide +kernel) rfl rfl (Nat.le_of_ble_eq_true rfl) dX2_add_10 (fun H locs hP hD hS => ?_)
  have hP : va_P (dC, dI) vwCl [(h0, .inr (2, [.long (mxL (pv.1 ^^^ xv)), .long pv.2]))] H := hP
  have hD : va_D A [(h0, .inr (2, [.long (mxL (pv.1 ^^^ xv)), .long pv.2]))] := hD
  refine lv_aload_n hx hb dX2_add_13 rfl (lv_at hl 0 rfl) ?_
  refine lv_aload_n hx hb dX2_add_14 rfl (lv_at hl 0 rfl) ?_
  refine va_get (D := (dC, dI)) (ci := 2) (v := .long pv.2) (C := RX2) (T := TX2) (N := 2) hx hb hts iX2 hown hK hP 0 rfl rfl 1 (by decide) f15 (fun _ h9 => h9) rfl dX2_add_15 ?_
  refine lv_aload_n hx hb dX2_add_18 rfl (lv_at hl 0 rfl) ?_
  refine va_get (D := (dC, dI)) (ci := 2) (v := .long (mxL (pv.1 ^^^ xv))) (C := RX2) (T := TX2) (N := 2) hx hb hts iX2 hown hK hP 0 rfl rfl 0 (by decide) f9 (fun _ h9 => h9) rfl dX2_add_19 ?_
  refine lv_ladd hx hb dX2_add_22 ?_
  refine st_calll (va_runS (As := [.long (pv.2 + (mxL (pv.1 ^^^ xv)))]) (rest := [.ref h0]) ⟨hx, hb, hml, hown, hts⟩ (c_Hasher_mixed l dC dI cJ cI  (pv.2 + (mxL (pv.1 ^^^ xv)))  H.size) (va_cwS 1 hts gX2_add_X2_mixed rfl rfl rfl (by decide +kernel) ⟨Nat.le_of_ble_eq_true rfl, Nat.le_of_ble_eq_true rfl⟩) (st_preS hK hP hD [] rfl rfl) rfl rfl hl.1 rfl (lv_room (Nat.le_of_ble_eq_true rfl)) dX2_add_23 ⟨Nat.le_of_ble_eq_true rfl, Nat.le_of_ble_eq_true rfl⟩) hP hD hS hA [] [0] (wr := [(h0, .inr (2, [.long (mxL (pv.1 ^^^ xv)), .long pv.2]))]) rfl rfl (by decide) (by decide) [0] (res := fun _ => [(h0, .inr (2, [.long (mxL (pv.1 ^^^ xv)), .long pv.2]))]) (fun _ => rfl) (by decide) (fun r_2 _ H locs hu hP hD hS => ?_)
  have hP : va_P (dC, dI) vwCl [(h0, .inr (2, [.long (mxL (pv.1 ^^^ xv)), .long pv.2]))] H := hP
  have hD : va_D A [(h0, .inr (2, [.long (mxL (pv.1 ^^^ xv)), .long pv.2]))] := hD
  subst hu
  refine va_put (D := (dC, dI)) (ci := 2) (v := .long (mxL (pv.2 + (mxL (pv.1 ^^^ xv))))) (ty := .long) (C := RX2) (T := TX2) (N := 2) hx hb hts iX2 tyX2 tyX2_ok nmX2 hown hK hP hD hS 0 rfl rfl 1 (by decide) f15 (fun _ h9 => h9) rfl (by decide +kernel) rfl rfl (Nat.le_of_ble_eq_true rfl) dX2_add_26 (fun H locs hP hD hS => ?_)
  have hP : va_P (dC, dI) vwCl [(h0, .inr (2, [.long (mxL (pv.1 ^^^ xv)), .long (mxL (pv.2 + (mxL (pv.1 ^^^ xv))))]))] H := hP
  have hD : va_D A [(h0, .inr (2, [.long (mxL (pv.1 ^^^ xv)), .long (mxL (pv.2 + (mxL (pv.1 ^^^ xv))))]))] := hD
  have eW_3 : ([(h0, .inr (2, [.long (mxL (pv.1 ^^^ xv)), .long (mxL (pv.2 + (mxL (pv.1 ^^^ xv))))]))] : va_W) = [(h0, .inr (2, [.long ((ha pv xv).1), .long ((ha pv xv).2)]))] := rfl
  have hP : va_P (dC, dI) vwCl [(h0, .inr (2, [.long ((ha pv xv).1), .long ((ha pv xv).2)]))] H := by rw [← eW_3]; exact hP
  have hD : va_D A [(h0, .inr (2, [.long ((ha pv xv).1), .long ((ha pv xv).2)]))] := by rw [← eW_3]; exact hD
  exact W.vret hx hb hr (fun t ht hW => ⟨⟨(), rfl, trivial, by rw [ht]; exact hP, va_K.moved hW.alike hK, hD⟩, hS.F ht⟩) hS.2.2 dX2_add_29

set_option maxHeartbeats 4000000 in
set_option maxRecDepth 100000 in
theorem c_Pairs_at (l : Launch) (dC : Nat → ClassId) (dI : Nat → Nat → Nat) (cJ cI : ClassId) (h0 h1 : Nat) (nn : Nat) (fv : Nat → Int64) (j hf : Nat) (hj : 2 * j + hf < nn) (hn : nn < 2 ^ 31) (sz : Nat) : Met l yX5_at wsX5_at ({ frames := 0, cells := 0, slots := 0, locals := 0 }) (va_Pc [.ref h0, .int (nI j), .int (nI hf)] (st_B (dC, dI) vwCl [(cJ, .long), (cI, .int)] [(h0, .inr (5, [.ref h1])), (h1, .inl (cJ, nn, .inr (.inl (fv))))] sz)) (va_Ql (fun (r : Int64) (_ : Unit) => r = fv (2 * j + hf)) (st_E (dC, dI) vwCl [(cJ, .long), (cI, .int)] (va_A [(h0, .inr (5, [.ref h1])), (h1, .inl (cJ, nn, .inr (.inl (fv))))] sz) (fun _ => [(h0, .inr (5, [.ref h1])), (h1, .inl (cJ, nn, .inr (.inl (fv))))])) (va_A [(h0, .inr (5, [.ref h1])), (h1, .inl (cJ, nn, .inr (.inl (fv))))] sz)) 0 0 (va_A [(h0, .inr (5, [.ref h1])), (h1, .inl (cJ, nn, .inr (.inl (fv))))] sz) := by
  refine Met.ofW (cc := cX5_at) (maxL := 3) (ret := (some .long)) (by decide) rfl ?_
  intro p e s m args below meth c s₁ B hml hv
  obtain ⟨rfl, hsz, hP, hK, hD0⟩ := hv
  have hx := B.exec
  have hb := B.bytes
  have hr := B.returns
  have hts := atoms_spec (ws := wsX5_at) B.pre
  have hown : s.vm.findClass RX5 = some m.cls := findClass_of_methodNamed B.named
  have hlocks := B.notSynchronized
  subst hsz
  have hD := hD0.self (sz := s.heap.size)
  generalize hAe : va_A [(h0, .inr (5, [.ref h1])), (h1, .inl (cJ, nn, .inr (.inl (fv))))] s.heap.size = A at hD ⊢
  have hA : ∀ q : Nat, s.heap.size ≤ q → A q := fun q h => by rw [← hAe]; exact Or.inr h
  have hS : va_S A s.heap s.heap [] := va_S.rf
  have hP : va_P (dC, dI) vwCl [(h0, .inr (5, [.ref h1])), (h1, .inl (cJ, nn, .inr (.inl (fv))))] s.heap := hP
  have hl := lv_entry ([.ref h0, .int (nI j), .int (nI hf)]) (n := 3) (Nat.le_of_ble_eq_true rfl)
  rw [lg_entry_eq]
  generalize (lg_sl ([.ref h0, .int (nI j), .int (nI hf)]) ++ List.replicate (3 - (lg_sl ([.ref h0, .int (nI j), .int (nI hf)])).length) Slot.unset).toArray = ls at hl ⊢
  have iX5 : ∀ w ∈ wsX50, w ∈ wsX5_at := by decide +kernel
  have f7 := hts (.fieldLink RX5 7 "LeafSigner$Pairs" "longs" "[J") (by decide +kernel)
  have hl : lv_has ls 3 [(0, .ref h0), (1, .int (nI j)), (2, .int (nI hf))] := hl
  refine lv_aload_n hx hb dX5_at_0 rfl (lv_at hl 0 rfl) ?_
  refine va_get (D := (dC, dI)) (ci := 5) (v := .ref h1) (C := RX5) (T := TX5) (N := 1) hx hb hts iX5 hown hK hP 0 rfl rfl 0 (by decide) f7 (fun _ h9 => h9) rfl dX5_at_1 ?_
  refine lv_iconst (v := nI 2) hx hb dX5_at_4 (by decide) ?_
  refine lv_iload_n hx hb dX5_at_5 rfl (lv_at hl 1 rfl) ?_
  refine lv_imul hx hb dX5_at_6 ?_
  refine st_i (y := nI (2 * j)) (pk_mul 2 j) ?_
  refine lv_iload_n hx hb dX5_at_7 rfl (lv_at hl 2 rfl) ?_
  refine lv_iadd hx hb dX5_at_8 ?_
  refine st_i (y := nI (2 * j + hf)) (nI_add (2 * j) hf) ?_
  refine st_lald hx hb hK hP 1 0 rfl rfl (2 * j + hf) rfl (by omega) (by omega) dX5_at_9 ?_
  exact W.lret (v := fv (2 * j + hf)) hx hb hr (fun t ht hW => ⟨⟨fv (2 * j + hf), (), rfl, rfl, by rw [ht]; exact hP, va_K.moved hW.alike hK, hD⟩, hS.F ht⟩) hS.2.2 dX5_at_10

set_option maxHeartbeats 4000000 in
set_option maxRecDepth 100000 in
theorem c_Pairs_put (l : Launch) (dC : Nat → ClassId) (dI : Nat → Nat → Nat) (cJ cI : ClassId) (h0 h1 : Nat) (nn : Nat) (fv : Nat → Int64) (j hf : Nat) (xv : Int64) (hj : 2 * j + hf < nn) (hn : nn < 2 ^ 31) (sz : Nat) : Met l yX5_put wsX5_put ({ frames := 0, cells := 0, slots := 0, locals := 0 }) (va_Pc [.ref h0, .int (nI j), .int (nI hf), .long xv] (st_B (dC, dI) vwCl [(cJ, .long), (cI, .int)] [(h0, .inr (5, [.ref h1])), (h1, .inl (cJ, nn, .inr (.inl (fv))))] sz)) (va_Qv (fun _ : Unit => True) (st_E (dC, dI) vwCl [(cJ, .long), (cI, .int)] (va_A [(h0, .inr (5, [.ref h1])), (h1, .inl (cJ, nn, .inr (.inl (fv))))] sz) (fun _ => [(h0, .inr (5, [.ref h1])), (h1, .inl (cJ, nn, .inr (.inl (vp_updL fv (2 * j + hf) xv))))])) (va_A [(h0, .inr (5, [.ref h1])), (h1, .inl (cJ, nn, .inr (.inl (fv))))] sz)) 0 0 (va_A [(h0, .inr (5, [.ref h1])), (h1, .inl (cJ, nn, .inr (.inl (fv))))] sz) := by
  refine Met.ofW (cc := cX5_put) (maxL := 5) (ret := none) (by decide) rfl ?_
  intro p e s m args below meth c s₁ B hml hv
  obtain ⟨rfl, hsz, hP, hK, hD0⟩ := hv
  have hx := B.exec
  have hb := B.bytes
  have hr := B.returns
  have hts := atoms_spec (ws := wsX5_put) B.pre
  have hown : s.vm.findClass RX5 = some m.cls := findClass_of_methodNamed B.named
  have hlocks := B.notSynchronized
  subst hsz
  have hD := hD0.self (sz := s.heap.size)
  generalize hAe : va_A [(h0, .inr (5, [.ref h1])), (h1, .inl (cJ, nn, .inr (.inl (fv))))] s.heap.size = A at hD ⊢
  have hA : ∀ q : Nat, s.heap.size ≤ q → A q := fun q h => by rw [← hAe]; exact Or.inr h
  have hS : va_S A s.heap s.heap [] := va_S.rf
  have hP : va_P (dC, dI) vwCl [(h0, .inr (5, [.ref h1])), (h1, .inl (cJ, nn, .inr (.inl (fv))))] s.heap := hP
  have hl := lv_entry ([.ref h0, .int (nI j), .int (nI hf), .long xv]) (n := 5) (Nat.le_of_ble_eq_true rfl)
  rw [lg_entry_eq]
  generalize (lg_sl ([.ref h0, .int (nI j), .int (nI hf), .long xv]) ++ List.replicate (5 - (lg_sl ([.ref h0, .int (nI j), .int (nI hf), .long xv])).length) Slot.unset).toArray = ls at hl ⊢
  have iX5 : ∀ w ∈ wsX50, w ∈ wsX5_put := by decide +kernel
  have f7 := hts (.fieldLink RX5 7 "LeafSigner$Pairs" "longs" "[J") (by decide +kernel)
  have hl : lv_has ls 5 [(0, .ref h0), (1, .int (nI j)), (2, .int (nI hf)), (3, .long xv)] := hl
  refine lv_aload_n hx hb dX5_put_0 rfl (lv_at hl 0 rfl) ?_
  refine va_get (D := (dC, dI)) (ci := 5) (v := .ref h1) (C := RX5) (T := TX5) (N := 1) hx hb hts iX5 hown hK hP 0 rfl rfl 0 (by decide) f7 (fun _ h9 => h9) rfl dX5_put_1 ?_
  refine lv_iconst (v := nI 2) hx hb dX5_put_4 (by decide) ?_
  refine lv_iload_n hx hb dX5_put_5 rfl (lv_at hl 1 rfl) ?_
  refine lv_imul hx hb dX5_put_6 ?_
  refine st_i (y := nI (2 * j)) (pk_mul 2 j) ?_
  refine lv_iload_n hx hb dX5_put_7 rfl (lv_at hl 2 rfl) ?_
  refine lv_iadd hx hb dX5_put_8 ?_
  refine st_i (y := nI (2 * j + hf)) (nI_add (2 * j) hf) ?_
  refine lv_lload_n hx hb dX5_put_9 rfl (lv_at hl 3 rfl) ?_
  refine st_last hx hb hK hP hD hS 1 0 rfl rfl (2 * j + hf) rfl (by omega) (by omega) dX5_put_10 (fun H locs hP hD hS => ?_)
  have hP : va_P (dC, dI) vwCl [(h0, .inr (5, [.ref h1])), (h1, .inl (cJ, nn, .inr (.inl (vp_updL fv (2 * j + hf) xv))))] H := hP
  have hD : va_D A [(h0, .inr (5, [.ref h1])), (h1, .inl (cJ, nn, .inr (.inl (vp_updL fv (2 * j + hf) xv))))] := hD
  exact W.vret hx hb hr (fun t ht hW => ⟨⟨(), rfl, trivial, by rw [ht]; exact hP, va_K.moved hW.alike hK, hD⟩, hS.F ht⟩) hS.2.2 dX5_put_11

set_option maxHeartbeats 4000000 in
set_option maxRecDepth 100000 in
theorem c_Pairs_copy (l : Launch) (dC : Nat → ClassId) (dI : Nat → Nat → Nat) (cJ cI : ClassId) (h0 h1 r0 r1 : Nat) (nn n2 : Nat) (fv gv : Nat → Int64) (j k : Nat) (hj : 2 * j + 1 < nn) (hk : 2 * k + 1 < n2) (hn : nn < 2 ^ 31) (hn2 : n2 < 2 ^ 31) (sz : Nat) : Met l yX5_copy wsX5_copy ({ frames := 1, cells := 0, slots := 0, locals := 24 }) (va_Pc [.ref h0, .int (nI j), .ref r0, .int (nI k)] (st_B (dC, dI) vwCl [(cJ, .long), (cI, .int)] [(h0, .inr (5, [.ref h1])), (h1, .inl (cJ, nn, .inr (.inl (fv)))), (r0, .inr (5, [.ref r1])), (r1, .inl (cJ, n2, .inr (.inl (gv))))] sz)) (va_Qv (fun _ : Unit => True) (st_E (dC, dI) vwCl [(cJ, .long), (cI, .int)] (va_A [(h0, .inr (5, [.ref h1])), (h1, .inl (cJ, nn, .inr (.inl (fv)))), (r0, .inr (5, [.ref r1])), (r1, .inl (cJ, n2, .inr (.inl (gv))))] sz) (fun _ => [(h0, .inr (5, [.ref h1])), (h1, .inl (cJ, nn, .inr (.inl (setP fv j (gv (2 * k), gv (2 * k + 1)))))), (r0, .inr (5, [.ref r1])), (r1, .inl (cJ, n2, .inr (.inl (gv))))])) (va_A [(h0, .inr (5, [.ref h1])), (h1, .inl (cJ, nn, .inr (.inl (fv)))), (r0, .inr (5, [.ref r1])), (r1, .inl (cJ, n2, .inr (.inl (gv))))] sz)) 0 0 (va_A [(h0, .inr (5, [.ref h1])), (h1, .inl (cJ, nn, .inr (.inl (fv)))), (r0, .inr (5, [.ref r1])), (r1, .inl (cJ, n2, .inr (.inl (gv))))] sz) := by
  refine Met.ofW (cc := cX5_copy) (maxL := 4) (ret := none) (by decide) rfl ?_
  intro p e s m args below meth c s₁ B hml hv
  obtain ⟨rfl, hsz, hP, hK, hD0⟩ := hv
  have hx := B.exec
  have hb := B.bytes
  have hr := B.returns
  have hts := atoms_spec (ws := wsX5_copy) B.pre
  have hown : s.vm.findClass RX5 = some m.cls := findClass_of_methodNamed B.named
  have hlocks := B.notSynchronized
  subst hsz
  have hD := hD0.self (sz := s.heap.size)
  generalize hAe : va_A [(h0, .inr (5, [.ref h1])), (h1, .inl (cJ, nn, .inr (.inl (fv)))), (r0, .inr (5, [.ref r1])), (r1, .inl (cJ, n2, .inr (.inl (gv))))] s.heap.size = A at hD ⊢
  have hA : ∀ q : Nat, s.heap.size ≤ q → A q := fun q h => by rw [← hAe]; exact Or.inr h
  have hS : va_S A s.heap s.heap [] := va_S.rf
  have hP : va_P (dC, dI) vwCl [(h0, .inr (5, [.ref h1])), (h1, .inl (cJ, nn, .inr (.inl (fv)))), (r0, .inr (5, [.ref r1])), (r1, .inl (cJ, n2, .inr (.inl (gv))))] s.heap := hP
  have hl := lv_entry ([.ref h0, .int (nI j), .ref r0, .int (nI k)]) (n := 4) (Nat.le_of_ble_eq_true rfl)
  rw [lg_entry_eq]
  generalize (lg_sl ([.ref h0, .int (nI j), .ref r0, .int (nI k)]) ++ List.replicate (4 - (lg_sl ([.ref h0, .int (nI j), .ref r0, .int (nI k)])).length) Slot.unset).toArray = ls at hl ⊢
  have hl : lv_has ls 4 [(0, .ref h0), (1, .int (nI j)), (2, .ref r0), (3, .int (nI k))] := hl
  refine lv_aload_n hx hb dX5_copy_0 rfl (lv_at hl 0 rfl) ?_
  refine lv_iload_n hx hb dX5_copy_1 rfl (lv_at hl 1 rfl) ?_
  refine lv_iconst (v := nI 0) hx hb dX5_copy_2 (by decide) ?_
  refine lv_aload_n hx hb dX5_copy_3 rfl (lv_at hl 2 rfl) ?_
  refine lv_iload_n hx hb dX5_copy_4 rfl (lv_at hl 3 rfl) ?_
  refine lv_iconst (v := nI 0) hx hb dX5_copy_5 (by decide) ?_
  refine st_calll (va_runV (As := [.int (nI k), .int (nI 0)]) (rest := [.int (nI 0), .int (nI j), .ref h0]) ⟨hx, hb, hml, hown, hts⟩ (c_Pairs_at l dC dI cJ cI r0 r1 n2 gv k 0 (by omega) (by omega) s.heap.size) (cwV 2 hts gX5_copy_X5_at rfl rfl rfl (by decide +kernel) ⟨Nat.le_of_ble_eq_true rfl, Nat.le_of_ble_eq_true rfl⟩) (st_preV hK hP hD [2, 3] rfl rfl (ci := 5) (q0 := 0) rfl rfl) rfl rfl hl.1 rfl (lv_room (Nat.le_of_ble_eq_true rfl)) dX5_copy_6 ⟨Nat.le_of_ble_eq_true rfl, Nat.le_of_ble_eq_true rfl⟩) hP hD hS hA [2, 3] [0, 1] (wr := [(h0, .inr (5, [.ref h1])), (h1, .inl (cJ, nn, .inr (.inl (fv))))]) rfl rfl (by decide) (by decide) [0, 1, 2, 3] (res := fun _ => [(h0, .inr (5, [.ref h1])), (h1, .inl (cJ, nn, .inr (.inl (fv)))), (r0, .inr (5, [.ref r1])), (r1, .inl (cJ, n2, .inr (.inl (gv))))]) (fun _ => rfl) (by decide) (fun r_1 _ H locs hu hP hD hS => ?_)
  have hP : va_P (dC, dI) vwCl [(h0, .inr (5, [.ref h1])), (h1, .inl (cJ, nn, .inr (.inl (fv)))), (r0, .inr (5, [.ref r1])), (r1, .inl (cJ, n2, .inr (.inl (gv))))] H := hP
  have hD : va_D A [(h0, .inr (5, [.ref h1])), (h1, .inl (cJ, nn, .inr (.inl (fv)))), (r0, .inr (5, [.ref r1])), (r1, .inl (cJ, n2, .inr (.inl (gv))))] := hD
  subst hu
  refine st_callv (va_runV (As := [.int (nI j), .int (nI 0), .long (gv (2 * k))]) (rest := []) ⟨hx, hb, hml, hown, hts⟩ (c_Pairs_put l dC dI cJ cI h0 h1 nn fv j 0 (gv (2 * k)) (by omega) (by omega) H.size) (cwV 3 hts gX5_copy_X5_put rfl rfl rfl (by decide +kernel) ⟨Nat.le_of_ble_eq_true rfl, Nat.le_of_ble_eq_true rfl⟩) (st_preV hK hP hD [0, 1] rfl rfl (ci := 5) (q0 := 0) rfl rfl) rfl rfl hl.1 rfl (lv_room (Nat.le_of_ble_eq_true rfl)) dX5_copy_9 ⟨Nat.le_of_ble_eq_true rfl, Nat.le_of_ble_eq_true rfl⟩) hP hD hS hA [0, 1] [2, 3] (wr := [(r0, .inr (5, [.ref r1])), (r1, .inl (cJ, n2, .inr (.inl (gv))))]) rfl rfl (by decide) (by decide) [2, 3, 0, 1] (res := fun _ => [(h0, .inr (5, [.ref h1])), (h1, .inl (cJ, nn, .inr (.inl (vp_updL fv (2 * j) (gv (2 * k)))))), (r0, .inr (5, [.ref r1])), (r1, .inl (cJ, n2, .inr (.inl (gv))))]) (fun _ => rfl) (by decide) (fun  _ H locs hu hP hD hS => ?_)
  have hP : va_P (dC, dI) vwCl [(h0, .inr (5, [.ref h1])), (h1, .inl (cJ, nn, .inr (.inl (vp_updL fv (2 * j) (gv (2 * k)))))), (r0, .inr (5, [.ref r1])), (r1, .inl (cJ, n2, .inr (.inl (gv))))] H := hP
  have hD : va_D A [(h0, .inr (5, [.ref h1])), (h1, .inl (cJ, nn, .inr (.inl (vp_updL fv (2 * j) (gv (2 * k)))))), (r0, .inr (5, [.ref r1])), (r1, .inl (cJ, n2, .inr (.inl (gv))))] := hD
  refine lv_aload_n hx hb dX5_copy_12 rfl (lv_at hl 0 rfl) ?_
  refine lv_iload_n hx hb dX5_copy_13 rfl (lv_at hl 1 rfl) ?_
  refine lv_iconst (v := nI 1) hx hb dX5_copy_14 (by decide) ?_
  refine lv_aload_n hx hb dX5_copy_15 rfl (lv_at hl 2 rfl) ?_
  refine lv_iload_n hx hb dX5_copy_16 rfl (lv_at hl 3 rfl) ?_
  refine lv_iconst (v := nI 1) hx hb dX5_copy_17 (by decide) ?_
  refine st_calll (va_runV (As := [.int (nI k), .int (nI 1)]) (rest := [.int (nI 1), .int (nI j), .ref h0]) ⟨hx, hb, hml, hown, hts⟩ (c_Pairs_at l dC dI cJ cI r0 r1 n2 gv k 1 (by omega) (by omega) H.size) (cwV 2 hts gX5_copy_X5_at rfl rfl rfl (by decide +kernel) ⟨Nat.le_of_ble_eq_true rfl, Nat.le_of_ble_eq_true rfl⟩) (st_preV hK hP hD [2, 3] rfl rfl (ci := 5) (q0 := 0) rfl rfl) rfl rfl hl.1 rfl (lv_room (Nat.le_of_ble_eq_true rfl)) dX5_copy_18 ⟨Nat.le_of_ble_eq_true rfl, Nat.le_of_ble_eq_true rfl⟩) hP hD hS hA [2, 3] [0, 1] (wr := [(h0, .inr (5, [.ref h1])), (h1, .inl (cJ, nn, .inr (.inl (vp_updL fv (2 * j) (gv (2 * k))))))]) rfl rfl (by decide) (by decide) [0, 1, 2, 3] (res := fun _ => [(h0, .inr (5, [.ref h1])), (h1, .inl (cJ, nn, .inr (.inl (vp_updL fv (2 * j) (gv (2 * k)))))), (r0, .inr (5, [.ref r1])), (r1, .inl (cJ, n2, .inr (.inl (gv))))]) (fun _ => rfl) (by decide) (fun r_2 _ H locs hu hP hD hS => ?_)
  have hP : va_P (dC, dI) vwCl [(h0, .inr (5, [.ref h1])), (h1, .inl (cJ, nn, .inr (.inl (vp_updL fv (2 * j) (gv (2 * k)))))), (r0, .inr (5, [.ref r1])), (r1, .inl (cJ, n2, .inr (.inl (gv))))] H := hP
  have hD : va_D A [(h0, .inr (5, [.ref h1])), (h1, .inl (cJ, nn, .inr (.inl (vp_updL fv (2 * j) (gv (2 * k)))))), (r0, .inr (5, [.ref r1])), (r1, .inl (cJ, n2, .inr (.inl (gv))))] := hD
  subst hu
  refine st_callv (va_runV (As := [.int (nI j), .int (nI 1), .long (gv (2 * k + 1))]) (rest := []) ⟨hx, hb, hml, hown, hts⟩ (c_Pairs_put l dC dI cJ cI h0 h1 nn (vp_updL fv (2 * j) (gv (2 * k))) j 1 (gv (2 * k + 1)) (by omega) (by omega) H.size) (cwV 3 hts gX5_copy_X5_put rfl rfl rfl (by decide +kernel) ⟨Nat.le_of_ble_eq_true rfl, Nat.le_of_ble_eq_true rfl⟩) (st_preV hK hP hD [0, 1] rfl rfl (ci := 5) (q0 := 0) rfl rfl) rfl rfl hl.1 rfl (lv_room (Nat.le_of_ble_eq_true rfl)) dX5_copy_21 ⟨Nat.le_of_ble_eq_true rfl, Nat.le_of_ble_eq_true rfl⟩) hP hD hS hA [0, 1] [2, 3] (wr := [(r0, .inr (5, [.ref r1])), (r1, .inl (cJ, n2, .inr (.inl (gv))))]) rfl rfl (by decide) (by decide) [2, 3, 0, 1] (res := fun _ => [(h0, .inr (5, [.ref h1])), (h1, .inl (cJ, nn, .inr (.inl (vp_updL (vp_updL fv (2 * j) (gv (2 * k))) (2 * j + 1) (gv (2 * k + 1)))))), (r0, .inr (5, [.ref r1])), (r1, .inl (cJ, n2, .inr (.inl (gv))))]) (fun _ => rfl) (by decide) (fun  _ H locs hu hP hD hS => ?_)
  have hP : va_P (dC, dI) vwCl [(h0, .inr (5, [.ref h1])), (h1, .inl (cJ, nn, .inr (.inl (vp_updL (vp_updL fv (2 * j) (gv (2 * k))) (2 * j + 1) (gv (2 * k + 1)))))), (r0, .inr (5, [.ref r1])), (r1, .inl (cJ, n2, .inr (.inl (gv))))] H := hP
  have hD : va_D A [(h0, .inr (5, [.ref h1])), (h1, .inl (cJ, nn, .inr (.inl (vp_updL (vp_updL fv (2 * j) (gv (2 * k))) (2 * j + 1) (gv (2 * k + 1)))))), (r0, .inr (5, [.ref r1])), (r1, .inl (cJ, n2, .inr (.inl (gv))))] := hD
  have eW_3 : ([(h0, .inr (5, [.ref h1])), (h1, .inl (cJ, nn, .inr (.inl (vp_updL (vp_updL fv (2 * j) (gv (2 * k))) (2 * j + 1) (gv (2 * k + 1)))))), (r0, .inr (5, [.ref r1])), (r1, .inl (cJ, n2, .inr (.inl (gv))))] : va_W) = [(h0, .inr (5, [.ref h1])), (h1, .inl (cJ, nn, .inr (.inl (setP fv j (gv (2 * k), gv (2 * k + 1)))))), (r0, .inr (5, [.ref r1])), (r1, .inl (cJ, n2, .inr (.inl (gv))))] := rfl
  have hP : va_P (dC, dI) vwCl [(h0, .inr (5, [.ref h1])), (h1, .inl (cJ, nn, .inr (.inl (setP fv j (gv (2 * k), gv (2 * k + 1)))))), (r0, .inr (5, [.ref r1])), (r1, .inl (cJ, n2, .inr (.inl (gv))))] H := by rw [← eW_3]; exact hP
  have hD : va_D A [(h0, .inr (5, [.ref h1])), (h1, .inl (cJ, nn, .inr (.inl (setP fv j (gv (2 * k), gv (2 * k + 1)))))), (r0, .inr (5, [.ref r1])), (r1, .inl (cJ, n2, .inr (.inl (gv))))] := by rw [← eW_3]; exact hD
  exact W.vret hx hb hr (fun t ht hW => ⟨⟨(), rfl, trivial, by rw [ht]; exact hP, va_K.moved hW.alike hK, hD⟩, hS.F ht⟩) hS.2.2 dX5_copy_24

set_option maxHeartbeats 4000000 in
set_option maxRecDepth 100000 in
theorem c_Hasher_addPair (l : Launch) (dC : Nat → ClassId) (dI : Nat → Nat → Nat) (cJ cI : ClassId) (h0 r0 r1 : Nat) (pv : Int64 × Int64) (nn : Nat) (fv : Nat → Int64) (k : Nat) (hk : 2 * k + 1 < nn) (hn : nn < 2 ^ 31) (sz : Nat) : Met l yX2_addPair wsX2_addPair ({ frames := 2, cells := 0, slots := 0, locals := 47 }) (va_Pc [.ref h0, .ref r0, .int (nI k)] (st_B (dC, dI) vwCl [(cJ, .long), (cI, .int)] [(h0, .inr (2, [.long pv.1, .long pv.2])), (r0, .inr (5, [.ref r1])), (r1, .inl (cJ, nn, .inr (.inl (fv))))] sz)) (va_Qv (fun _ : Unit => True) (st_E (dC, dI) vwCl [(cJ, .long), (cI, .int)] (va_A [(h0, .inr (2, [.long pv.1, .long pv.2])), (r0, .inr (5, [.ref r1])), (r1, .inl (cJ, nn, .inr (.inl (fv))))] sz) (fun _ => [(h0, .inr (2, [.long ((ha (ha pv (fv (2 * k))) (fv (2 * k + 1))).1), .long ((ha (ha pv (fv (2 * k))) (fv (2 * k + 1))).2)])), (r0, .inr (5, [.ref r1])), (r1, .inl (cJ, nn, .inr (.inl (fv))))])) (va_A [(h0, .inr (2, [.long pv.1, .long pv.2])), (r0, .inr (5, [.ref r1])), (r1, .inl (cJ, nn, .inr (.inl (fv))))] sz)) 0 0 (va_A [(h0, .inr (2, [.long pv.1, .long pv.2])), (r0, .inr (5, [.ref r1])), (r1, .inl (cJ, nn, .inr (.inl (fv))))] sz) := by
  refine Met.ofW (cc := cX2_addPair) (maxL := 3) (ret := none) (by decide) rfl ?_
  intro p e s m args below meth c s₁ B hml hv
  obtain ⟨rfl, hsz, hP, hK, hD0⟩ := hv
  have hx := B.exec
  have hb := B.bytes
  have hr := B.returns
  have hts := atoms_spec (ws := wsX2_addPair) B.pre
  have hown : s.vm.findClass RX2 = some m.cls := findClass_of_methodNamed B.named
  have hlocks := B.notSynchronized
  subst hsz
  have hD := hD0.self (sz := s.heap.size)
  generalize hAe : va_A [(h0, .inr (2, [.long pv.1, .long pv.2])), (r0, .inr (5, [.ref r1])), (r1, .inl (cJ, nn, .inr (.inl (fv))))] s.heap.size = A at hD ⊢
  have hA : ∀ q : Nat, s.heap.size ≤ q → A q := fun q h => by rw [← hAe]; exact Or.inr h
  have hS : va_S A s.heap s.heap [] := va_S.rf
  have hP : va_P (dC, dI) vwCl [(h0, .inr (2, [.long pv.1, .long pv.2])), (r0, .inr (5, [.ref r1])), (r1, .inl (cJ, nn, .inr (.inl (fv))))] s.heap := hP
  have hl := lv_entry ([.ref h0, .ref r0, .int (nI k)]) (n := 3) (Nat.le_of_ble_eq_true rfl)
  rw [lg_entry_eq]
  generalize (lg_sl ([.ref h0, .ref r0, .int (nI k)]) ++ List.replicate (3 - (lg_sl ([.ref h0, .ref r0, .int (nI k)])).length) Slot.unset).toArray = ls at hl ⊢
  have hl : lv_has ls 3 [(0, .ref h0), (1, .ref r0), (2, .int (nI k))] := hl
  refine lv_aload_n hx hb dX2_addPair_0 rfl (lv_at hl 0 rfl) ?_
  refine lv_aload_n hx hb dX2_addPair_1 rfl (lv_at hl 1 rfl) ?_
  refine lv_iload_n hx hb dX2_addPair_2 rfl (lv_at hl 2 rfl) ?_
  refine lv_iconst (v := nI 0) hx hb dX2_addPair_3 (by decide) ?_
  refine st_calll (va_runV (As := [.int (nI k), .int (nI 0)]) (rest := [.ref h0]) ⟨hx, hb, hml, hown, hts⟩ (c_Pairs_at l dC dI cJ cI r0 r1 nn fv k 0 (by omega) (by omega) s.heap.size) (cwV 2 hts gX2_addPair_X5_at rfl rfl rfl (by decide +kernel) ⟨Nat.le_of_ble_eq_true rfl, Nat.le_of_ble_eq_true rfl⟩) (st_preV hK hP hD [1, 2] rfl rfl (ci := 5) (q0 := 0) rfl rfl) rfl rfl hl.1 rfl (lv_room (Nat.le_of_ble_eq_true rfl)) dX2_addPair_4 ⟨Nat.le_of_ble_eq_true rfl, Nat.le_of_ble_eq_true rfl⟩) hP hD hS hA [1, 2] [0] (wr := [(h0, .inr (2, [.long pv.1, .long pv.2]))]) rfl rfl (by decide) (by decide) [0, 1, 2] (res := fun _ => [(h0, .inr (2, [.long pv.1, .long pv.2])), (r0, .inr (5, [.ref r1])), (r1, .inl (cJ, nn, .inr (.inl (fv))))]) (fun _ => rfl) (by decide) (fun r_1 _ H locs hu hP hD hS => ?_)
  have hP : va_P (dC, dI) vwCl [(h0, .inr (2, [.long pv.1, .long pv.2])), (r0, .inr (5, [.ref r1])), (r1, .inl (cJ, nn, .inr (.inl (fv))))] H := hP
  have hD : va_D A [(h0, .inr (2, [.long pv.1, .long pv.2])), (r0, .inr (5, [.ref r1])), (r1, .inl (cJ, nn, .inr (.inl (fv))))] := hD
  subst hu
  refine st_callv (va_runV (As := [.long (fv (2 * k))]) (rest := []) ⟨hx, hb, hml, hown, hts⟩ (c_Hasher_add l dC dI cJ cI h0 pv (fv (2 * k))  H.size) (cwV 1 hts gX2_addPair_X2_add rfl rfl rfl (by decide +kernel) ⟨Nat.le_of_ble_eq_true rfl, Nat.le_of_ble_eq_true rfl⟩) (st_preV hK hP hD [0] rfl rfl (ci := 2) (q0 := 0) rfl rfl) rfl rfl hl.1 rfl (lv_room (Nat.le_of_ble_eq_true rfl)) dX2_addPair_7 ⟨Nat.le_of_ble_eq_true rfl, Nat.le_of_ble_eq_true rfl⟩) hP hD hS hA [0] [1, 2] (wr := [(r0, .inr (5, [.ref r1])), (r1, .inl (cJ, nn, .inr (.inl (fv))))]) rfl rfl (by decide) (by decide) [2, 0, 1] (res := fun _ => [(h0, .inr (2, [.long ((ha pv (fv (2 * k))).1), .long ((ha pv (fv (2 * k))).2)])), (r0, .inr (5, [.ref r1])), (r1, .inl (cJ, nn, .inr (.inl (fv))))]) (fun _ => rfl) (by decide) (fun  _ H locs hu hP hD hS => ?_)
  have hP : va_P (dC, dI) vwCl [(h0, .inr (2, [.long ((ha pv (fv (2 * k))).1), .long ((ha pv (fv (2 * k))).2)])), (r0, .inr (5, [.ref r1])), (r1, .inl (cJ, nn, .inr (.inl (fv))))] H := hP
  have hD : va_D A [(h0, .inr (2, [.long ((ha pv (fv (2 * k))).1), .long ((ha pv (fv (2 * k))).2)])), (r0, .inr (5, [.ref r1])), (r1, .inl (cJ, nn, .inr (.inl (fv))))] := hD
  refine lv_aload_n hx hb dX2_addPair_10 rfl (lv_at hl 0 rfl) ?_
  refine lv_aload_n hx hb dX2_addPair_11 rfl (lv_at hl 1 rfl) ?_
  refine lv_iload_n hx hb dX2_addPair_12 rfl (lv_at hl 2 rfl) ?_
  refine lv_iconst (v := nI 1) hx hb dX2_addPair_13 (by decide) ?_
  refine st_calll (va_runV (As := [.int (nI k), .int (nI 1)]) (rest := [.ref h0]) ⟨hx, hb, hml, hown, hts⟩ (c_Pairs_at l dC dI cJ cI r0 r1 nn fv k 1 (by omega) (by omega) H.size) (cwV 2 hts gX2_addPair_X5_at rfl rfl rfl (by decide +kernel) ⟨Nat.le_of_ble_eq_true rfl, Nat.le_of_ble_eq_true rfl⟩) (st_preV hK hP hD [1, 2] rfl rfl (ci := 5) (q0 := 0) rfl rfl) rfl rfl hl.1 rfl (lv_room (Nat.le_of_ble_eq_true rfl)) dX2_addPair_14 ⟨Nat.le_of_ble_eq_true rfl, Nat.le_of_ble_eq_true rfl⟩) hP hD hS hA [1, 2] [0] (wr := [(h0, .inr (2, [.long ((ha pv (fv (2 * k))).1), .long ((ha pv (fv (2 * k))).2)]))]) rfl rfl (by decide) (by decide) [0, 1, 2] (res := fun _ => [(h0, .inr (2, [.long ((ha pv (fv (2 * k))).1), .long ((ha pv (fv (2 * k))).2)])), (r0, .inr (5, [.ref r1])), (r1, .inl (cJ, nn, .inr (.inl (fv))))]) (fun _ => rfl) (by decide) (fun r_2 _ H locs hu hP hD hS => ?_)
  have hP : va_P (dC, dI) vwCl [(h0, .inr (2, [.long ((ha pv (fv (2 * k))).1), .long ((ha pv (fv (2 * k))).2)])), (r0, .inr (5, [.ref r1])), (r1, .inl (cJ, nn, .inr (.inl (fv))))] H := hP
  have hD : va_D A [(h0, .inr (2, [.long ((ha pv (fv (2 * k))).1), .long ((ha pv (fv (2 * k))).2)])), (r0, .inr (5, [.ref r1])), (r1, .inl (cJ, nn, .inr (.inl (fv))))] := hD
  subst hu
  refine st_callv (va_runV (As := [.long (fv (2 * k + 1))]) (rest := []) ⟨hx, hb, hml, hown, hts⟩ (c_Hasher_add l dC dI cJ cI h0 (ha pv (fv (2 * k))) (fv (2 * k + 1))  H.size) (cwV 1 hts gX2_addPair_X2_add rfl rfl rfl (by decide +kernel) ⟨Nat.le_of_ble_eq_true rfl, Nat.le_of_ble_eq_true rfl⟩) (st_preV hK hP hD [0] rfl rfl (ci := 2) (q0 := 0) rfl rfl) rfl rfl hl.1 rfl (lv_room (Nat.le_of_ble_eq_true rfl)) dX2_addPair_17 ⟨Nat.le_of_ble_eq_true rfl, Nat.le_of_ble_eq_true rfl⟩) hP hD hS hA [0] [1, 2] (wr := [(r0, .inr (5, [.ref r1])), (r1, .inl (cJ, nn, .inr (.inl (fv))))]) rfl rfl (by decide) (by decide) [2, 0, 1] (res := fun _ => [(h0, .inr (2, [.long ((ha (ha pv (fv (2 * k))) (fv (2 * k + 1))).1), .long ((ha (ha pv (fv (2 * k))) (fv (2 * k + 1))).2)])), (r0, .inr (5, [.ref r1])), (r1, .inl (cJ, nn, .inr (.inl (fv))))]) (fun _ => rfl) (by decide) (fun  _ H locs hu hP hD hS => ?_)
  have hP : va_P (dC, dI) vwCl [(h0, .inr (2, [.long ((ha (ha pv (fv (2 * k))) (fv (2 * k + 1))).1), .long ((ha (ha pv (fv (2 * k))) (fv (2 * k + 1))).2)])), (r0, .inr (5, [.ref r1])), (r1, .inl (cJ, nn, .inr (.inl (fv))))] H := hP
  have hD : va_D A [(h0, .inr (2, [.long ((ha (ha pv (fv (2 * k))) (fv (2 * k + 1))).1), .long ((ha (ha pv (fv (2 * k))) (fv (2 * k + 1))).2)])), (r0, .inr (5, [.ref r1])), (r1, .inl (cJ, nn, .inr (.inl (fv))))] := hD
  exact W.vret hx hb hr (fun t ht hW => ⟨⟨(), rfl, trivial, by rw [ht]; exact hP, va_K.moved hW.alike hK, hD⟩, hS.F ht⟩) hS.2.2 dX2_addPair_20

set_option maxHeartbeats 4000000 in
set_option maxRecDepth 100000 in
theorem c_Hasher_addMessage (l : Launch) (dC : Nat → ClassId) (dI : Nat → Nat → Nat) (cJ cI : ClassId) (h0 m0 m1 : Nat) (pv : Int64 × Int64) (ln : Nat) (mv : Nat → Int64) (hln : ln ≤ 20) (sz : Nat) : Met l yX2_addMessage wsX2_addMessage ({ frames := 2, cells := 0, slots := 0, locals := 47 }) (va_Pc [.ref h0, .ref m0] (st_B (dC, dI) vwCl [(cJ, .long), (cI, .int)] [(h0, .inr (2, [.long pv.1, .long pv.2])), (m0, .inr (4, [.ref m1, .int (nI ln)])), (m1, .inl (cJ, 20, .inr (.inl (mv))))] sz)) (va_Qv (fun _ : Unit => True) (st_E (dC, dI) vwCl [(cJ, .long), (cI, .int)] (va_A [(h0, .inr (2, [.long pv.1, .long pv.2])), (m0, .inr (4, [.ref m1, .int (nI ln)])), (m1, .inl (cJ, 20, .inr (.inl (mv))))] sz) (fun _ => [(h0, .inr (2, [.long ((hm pv mv ln).1), .long ((hm pv mv ln).2)])), (m0, .inr (4, [.ref m1, .int (nI ln)])), (m1, .inl (cJ, 20, .inr (.inl (mv))))])) (va_A [(h0, .inr (2, [.long pv.1, .long pv.2])), (m0, .inr (4, [.ref m1, .int (nI ln)])), (m1, .inl (cJ, 20, .inr (.inl (mv))))] sz)) 0 0 (va_A [(h0, .inr (2, [.long pv.1, .long pv.2])), (m0, .inr (4, [.ref m1, .int (nI ln)])), (m1, .inl (cJ, 20, .inr (.inl (mv))))] sz) := by
  refine Met.ofW (cc := cX2_addMessage) (maxL := 3) (ret := none) (by decide) rfl ?_
  intro p e s m args below meth c s₁ B hml hv
  obtain ⟨rfl, hsz, hP, hK, hD0⟩ := hv
  have hx := B.exec
  have hb := B.bytes
  have hr := B.returns
  have hts := atoms_spec (ws := wsX2_addMessage) B.pre
  have hown : s.vm.findClass RX2 = some m.cls := findClass_of_methodNamed B.named
  have hlocks := B.notSynchronized
  subst hsz
  have hD := hD0.self (sz := s.heap.size)
  generalize hAe : va_A [(h0, .inr (2, [.long pv.1, .long pv.2])), (m0, .inr (4, [.ref m1, .int (nI ln)])), (m1, .inl (cJ, 20, .inr (.inl (mv))))] s.heap.size = A at hD ⊢
  have hA : ∀ q : Nat, s.heap.size ≤ q → A q := fun q h => by rw [← hAe]; exact Or.inr h
  have hS : va_S A s.heap s.heap [] := va_S.rf
  have hP : va_P (dC, dI) vwCl [(h0, .inr (2, [.long pv.1, .long pv.2])), (m0, .inr (4, [.ref m1, .int (nI ln)])), (m1, .inl (cJ, 20, .inr (.inl (mv))))] s.heap := hP
  have hl := lv_entry ([.ref h0, .ref m0]) (n := 3) (Nat.le_of_ble_eq_true rfl)
  rw [lg_entry_eq]
  generalize (lg_sl ([.ref h0, .ref m0]) ++ List.replicate (3 - (lg_sl ([.ref h0, .ref m0])).length) Slot.unset).toArray = ls at hl ⊢
  have iX4 : ∀ w ∈ wsX40, w ∈ wsX2_addMessage := by decide +kernel
  have f32 := hts (.fieldLink RX2 32 "LeafSigner$Message" "size" "I") (by decide +kernel)
  have f38 := hts (.fieldLink RX2 38 "LeafSigner$Message" "longs" "[J") (by decide +kernel)
  have hl : lv_has ls 3 [(0, .ref h0), (1, .ref m0)] := hl
  refine lv_iconst (v := nI 0) hx hb dX2_addMessage_0 (by decide) ?_
  refine lv_istore_n (lv' := [(2, .int (nI 0)), (0, .ref h0), (1, .ref m0)]) hx hb dX2_addMessage_1 rfl hl (by decide) rfl (fun ls hl => ?_)
  have eW_1 : ([(h0, .inr (2, [.long pv.1, .long pv.2])), (m0, .inr (4, [.ref m1, .int (nI ln)])), (m1, .inl (cJ, 20, .inr (.inl (mv))))] : va_W) = [(h0, .inr (2, [.long ((hm pv mv 0).1), .long ((hm pv mv 0).2)])), (m0, .inr (4, [.ref m1, .int (nI ln)])), (m1, .inl (cJ, 20, .inr (.inl (mv))))] := rfl
  have hP : va_P (dC, dI) vwCl [(h0, .inr (2, [.long ((hm pv mv 0).1), .long ((hm pv mv 0).2)])), (m0, .inr (4, [.ref m1, .int (nI ln)])), (m1, .inl (cJ, 20, .inr (.inl (mv))))] s.heap := by rw [← eW_1]; exact hP
  have hD : va_D A [(h0, .inr (2, [.long ((hm pv mv 0).1), .long ((hm pv mv 0).2)])), (m0, .inr (4, [.ref m1, .int (nI ln)])), (m1, .inl (cJ, 20, .inr (.inl (mv))))] := by rw [← eW_1]; exact hD
  refine st_loop (I := fun i H locs ls => va_P (dC, dI) vwCl [(h0, .inr (2, [.long (hm pv mv i).1, .long (hm pv mv i).2])), (m0, .inr (4, [.ref m1, .int (nI ln)])), (m1, .inl (cJ, 20, .inr (.inl (mv))))] H ∧ va_D A [(h0, .inr (2, [.long (hm pv mv i).1, .long (hm pv mv i).2])), (m0, .inr (4, [.ref m1, .int (nI ln)])), (m1, .inl (cJ, 20, .inr (.inl (mv))))] ∧ va_S A s.heap H locs ∧ lv_has ls 3 [(0, .ref h0), (1, .ref m0), (2, .int (nI i))]) 0 ln (by omega) ⟨hP, hD, hS, lv_sub hl [1, 2, 0] rfl⟩ (fun H locs ls hI => ?_) (fun i H locs ls hi hI ih => ?_)
  ·
    obtain ⟨hP, hD, hS, hl⟩ := hI
    have hP : va_P (dC, dI) vwCl [(h0, .inr (2, [.long ((hm pv mv ln).1), .long ((hm pv mv ln).2)])), (m0, .inr (4, [.ref m1, .int (nI ln)])), (m1, .inl (cJ, 20, .inr (.inl (mv))))] H := hP
    have hD : va_D A [(h0, .inr (2, [.long ((hm pv mv ln).1), .long ((hm pv mv ln).2)])), (m0, .inr (4, [.ref m1, .int (nI ln)])), (m1, .inl (cJ, 20, .inr (.inl (mv))))] := hD
    have hl : lv_has ls 3 [(0, .ref h0), (1, .ref m0), (2, .int (nI ln))] := hl
    refine lv_iload_n hx hb dX2_addMessage_2 rfl (lv_at hl 2 rfl) ?_
    refine lv_aload_n hx hb dX2_addMessage_3 rfl (lv_at hl 1 rfl) ?_
    refine va_get (D := (dC, dI)) (ci := 4) (v := .int (nI ln)) (C := RX4) (T := TX4) (N := 2) hx hb hts iX4 hown hK hP 1 rfl rfl 1 (by decide) f32 (fun _ h9 => h9) rfl dX2_addMessage_4 ?_
    refine lv_icmp_ge (tgt := 26) hx hb dX2_addMessage_7 (by decide) (fun c7 => ?_) (fun c7 => ?_)
    ·
      rw [q_le (by omega) (by omega)] at c7
      exact W.vret hx hb hr (fun t ht hW => ⟨⟨(), rfl, trivial, by rw [ht]; exact hP, va_K.moved hW.alike hK, hD⟩, hS.F ht⟩) hS.2.2 dX2_addMessage_26
    ·
      rw [q_le (by omega) (by omega)] at c7
      exact absurd c7 (by omega)
  ·
    obtain ⟨hP, hD, hS, hl⟩ := hI
    have hP : va_P (dC, dI) vwCl [(h0, .inr (2, [.long ((hm pv mv i).1), .long ((hm pv mv i).2)])), (m0, .inr (4, [.ref m1, .int (nI ln)])), (m1, .inl (cJ, 20, .inr (.inl (mv))))] H := hP
    have hD : va_D A [(h0, .inr (2, [.long ((hm pv mv i).1), .long ((hm pv mv i).2)])), (m0, .inr (4, [.ref m1, .int (nI ln)])), (m1, .inl (cJ, 20, .inr (.inl (mv))))] := hD
    have hl : lv_has ls 3 [(0, .ref h0), (1, .ref m0), (2, .int (nI i))] := hl
    refine lv_iload_n hx hb dX2_addMessage_2 rfl (lv_at hl 2 rfl) ?_
    refine lv_aload_n hx hb dX2_addMessage_3 rfl (lv_at hl 1 rfl) ?_
    refine va_get (D := (dC, dI)) (ci := 4) (v := .int (nI ln)) (C := RX4) (T := TX4) (N := 2) hx hb hts iX4 hown hK hP 1 rfl rfl 1 (by decide) f32 (fun _ h9 => h9) rfl dX2_addMessage_4 ?_
    refine lv_icmp_ge (tgt := 26) hx hb dX2_addMessage_7 (by decide) (fun c7 => ?_) (fun c7 => ?_)
    ·
      rw [q_le (by omega) (by omega)] at c7
      exact absurd c7 (by omega)
    ·
      rw [q_le (by omega) (by omega)] at c7
      refine lv_aload_n hx hb dX2_addMessage_10 rfl (lv_at hl 0 rfl) ?_
      refine lv_aload_n hx hb dX2_addMessage_11 rfl (lv_at hl 1 rfl) ?_
      refine va_get (D := (dC, dI)) (ci := 4) (v := .ref m1) (C := RX4) (T := TX4) (N := 2) hx hb hts iX4 hown hK hP 1 rfl rfl 0 (by decide) f38 (fun _ h9 => h9) rfl dX2_addMessage_12 ?_
      refine lv_iload_n hx hb dX2_addMessage_15 rfl (lv_at hl 2 rfl) ?_
      refine st_lald hx hb hK hP 2 0 rfl rfl i rfl (by omega) (by omega) dX2_addMessage_16 ?_
      refine st_callv (va_runV (As := [.long (mv i)]) (rest := []) ⟨hx, hb, hml, hown, hts⟩ (c_Hasher_add l dC dI cJ cI h0 (hm pv mv i) (mv i)  H.size) (cwV 1 hts gX2_addMessage_X2_add rfl rfl rfl (by decide +kernel) ⟨Nat.le_of_ble_eq_true rfl, Nat.le_of_ble_eq_true rfl⟩) (st_preV hK hP hD [0] rfl rfl (ci := 2) (q0 := 0) rfl rfl) rfl rfl hl.1 rfl (lv_room (Nat.le_of_ble_eq_true rfl)) dX2_addMessage_17 ⟨Nat.le_of_ble_eq_true rfl, Nat.le_of_ble_eq_true rfl⟩) hP hD hS hA [0] [1, 2] (wr := [(m0, .inr (4, [.ref m1, .int (nI ln)])), (m1, .inl (cJ, 20, .inr (.inl (mv))))]) rfl rfl (by decide) (by decide) [2, 0, 1] (res := fun _ => [(h0, .inr (2, [.long ((ha (hm pv mv i) (mv i)).1), .long ((ha (hm pv mv i) (mv i)).2)])), (m0, .inr (4, [.ref m1, .int (nI ln)])), (m1, .inl (cJ, 20, .inr (.inl (mv))))]) (fun _ => rfl) (by decide) (fun  _ H locs hu hP hD hS => ?_)
      have hP : va_P (dC, dI) vwCl [(h0, .inr (2, [.long ((ha (hm pv mv i) (mv i)).1), .long ((ha (hm pv mv i) (mv i)).2)])), (m0, .inr (4, [.ref m1, .int (nI ln)])), (m1, .inl (cJ, 20, .inr (.inl (mv))))] H := hP
      have hD : va_D A [(h0, .inr (2, [.long ((ha (hm pv mv i) (mv i)).1), .long ((ha (hm pv mv i) (mv i)).2)])), (m0, .inr (4, [.ref m1, .int (nI ln)])), (m1, .inl (cJ, 20, .inr (.inl (mv))))] := hD
      refine lv_iinc (v := nI (i + 1)) (lv' := [(2, .int (nI (i + 1))), (0, .ref h0), (1, .ref m0)]) hx hb dX2_addMessage_20 hl (k := 2) rfl (st_inc i 1 (by decide)) (by decide) rfl (fun ls hl => ?_)
      refine lv_goto (tgt := 2) hx hb dX2_addMessage_23 (by decide) ?_
      have eW_2 : ([(h0, .inr (2, [.long ((ha (hm pv mv i) (mv i)).1), .long ((ha (hm pv mv i) (mv i)).2)])), (m0, .inr (4, [.ref m1, .int (nI ln)])), (m1, .inl (cJ, 20, .inr (.inl (mv))))] : va_W) = [(h0, .inr (2, [.long ((hm pv mv (i + 1)).1), .long ((hm pv mv (i + 1)).2)])), (m0, .inr (4, [.ref m1, .int (nI ln)])), (m1, .inl (cJ, 20, .inr (.inl (mv))))] := rfl
      have hP : va_P (dC, dI) vwCl [(h0, .inr (2, [.long ((hm pv mv (i + 1)).1), .long ((hm pv mv (i + 1)).2)])), (m0, .inr (4, [.ref m1, .int (nI ln)])), (m1, .inl (cJ, 20, .inr (.inl (mv))))] H := by rw [← eW_2]; exact hP
      have hD : va_D A [(h0, .inr (2, [.long ((hm pv mv (i + 1)).1), .long ((hm pv mv (i + 1)).2)])), (m0, .inr (4, [.ref m1, .int (nI ln)])), (m1, .inl (cJ, 20, .inr (.inl (mv))))] := by rw [← eW_2]; exact hD
      exact ih _ _ _ ⟨hP, hD, hS, lv_sub hl [1, 2, 0] rfl⟩

set_option maxHeartbeats 4000000 in
set_option maxRecDepth 100000 in
theorem c_Hasher_hashLeaf (l : Launch) (dC : Nat → ClassId) (dI : Nat → Nat → Nat) (cJ cI : ClassId) (h0 e0 e1 : Nat) (pv : Int64 × Int64) (ov : Int64) (lf : Nat) (ev : Nat → Int64) (hlf : lf < 2 ^ 31) (sz : Nat) : Met l yX2_hashLeaf wsX2_hashLeaf ({ frames := 3, cells := 0, slots := 0, locals := 69 }) (va_Pc [.ref h0, .long ov, .int (nI lf), .ref e0] (st_B (dC, dI) vwCl [(cJ, .long), (cI, .int)] [(h0, .inr (2, [.long pv.1, .long pv.2])), (e0, .inr (5, [.ref e1])), (e1, .inl (cJ, 70, .inr (.inl (ev))))] sz)) (va_Qv (fun _ : Unit => True) (st_E (dC, dI) vwCl [(cJ, .long), (cI, .int)] (va_A [(h0, .inr (2, [.long pv.1, .long pv.2])), (e0, .inr (5, [.ref e1])), (e1, .inl (cJ, 70, .inr (.inl (ev))))] sz) (fun _ => [(h0, .inr (2, [.long ((hm (ha (ha (lN 3, lN 72) ov) (lN lf)) ev 70).1), .long ((hm (ha (ha (lN 3, lN 72) ov) (lN lf)) ev 70).2)])), (e0, .inr (5, [.ref e1])), (e1, .inl (cJ, 70, .inr (.inl (ev))))])) (va_A [(h0, .inr (2, [.long pv.1, .long pv.2])), (e0, .inr (5, [.ref e1])), (e1, .inl (cJ, 70, .inr (.inl (ev))))] sz)) 0 0 (va_A [(h0, .inr (2, [.long pv.1, .long pv.2])), (e0, .inr (5, [.ref e1])), (e1, .inl (cJ, 70, .inr (.inl (ev))))] sz) := by
  refine Met.ofW (cc := cX2_hashLeaf) (maxL := 6) (ret := none) (by decide) rfl ?_
  intro p e s m args below meth c s₁ B hml hv
  obtain ⟨rfl, hsz, hP, hK, hD0⟩ := hv
  have hx := B.exec
  have hb := B.bytes
  have hr := B.returns
  have hts := atoms_spec (ws := wsX2_hashLeaf) B.pre
  have hown : s.vm.findClass RX2 = some m.cls := findClass_of_methodNamed B.named
  have hlocks := B.notSynchronized
  subst hsz
  have hD := hD0.self (sz := s.heap.size)
  generalize hAe : va_A [(h0, .inr (2, [.long pv.1, .long pv.2])), (e0, .inr (5, [.ref e1])), (e1, .inl (cJ, 70, .inr (.inl (ev))))] s.heap.size = A at hD ⊢
  have hA : ∀ q : Nat, s.heap.size ≤ q → A q := fun q h => by rw [← hAe]; exact Or.inr h
  have hS : va_S A s.heap s.heap [] := va_S.rf
  have hP : va_P (dC, dI) vwCl [(h0, .inr (2, [.long pv.1, .long pv.2])), (e0, .inr (5, [.ref e1])), (e1, .inl (cJ, 70, .inr (.inl (ev))))] s.heap := hP
  have hl := lv_entry ([.ref h0, .long ov, .int (nI lf), .ref e0]) (n := 6) (Nat.le_of_ble_eq_true rfl)
  rw [lg_entry_eq]
  generalize (lg_sl ([.ref h0, .long ov, .int (nI lf), .ref e0]) ++ List.replicate (6 - (lg_sl ([.ref h0, .long ov, .int (nI lf), .ref e0])).length) Slot.unset).toArray = ls at hl ⊢
  have hl : lv_has ls 6 [(0, .ref h0), (1, .long ov), (3, .int (nI lf)), (4, .ref e0)] := hl
  refine lv_aload_n hx hb dX2_hashLeaf_0 rfl (lv_at hl 0 rfl) ?_
  refine lv_iconst (v := nI 3) hx hb dX2_hashLeaf_1 (by decide) ?_
  refine lv_bipush (v := nI 72) hx hb dX2_hashLeaf_2 (by decide) ?_
  refine st_callv (va_runV (As := [.int (nI 3), .int (nI 72)]) (rest := []) ⟨hx, hb, hml, hown, hts⟩ (c_Hasher_start l dC dI cJ cI h0 pv (nI 3) (nI 72) (lN 3) (lN 72) (nI_l (by omega)) (nI_l (by omega)) s.heap.size) (cwV 2 hts gX2_hashLeaf_X2_start rfl rfl rfl (by decide +kernel) ⟨Nat.le_of_ble_eq_true rfl, Nat.le_of_ble_eq_true rfl⟩) (st_preV hK hP hD [0] rfl rfl (ci := 2) (q0 := 0) rfl rfl) rfl rfl hl.1 rfl (lv_room (Nat.le_of_ble_eq_true rfl)) dX2_hashLeaf_4 ⟨Nat.le_of_ble_eq_true rfl, Nat.le_of_ble_eq_true rfl⟩) hP hD hS hA [0] [1, 2] (wr := [(e0, .inr (5, [.ref e1])), (e1, .inl (cJ, 70, .inr (.inl (ev))))]) rfl rfl (by decide) (by decide) [2, 0, 1] (res := fun _ => [(h0, .inr (2, [.long (lN 3), .long (lN 72)])), (e0, .inr (5, [.ref e1])), (e1, .inl (cJ, 70, .inr (.inl (ev))))]) (fun _ => rfl) (by decide) (fun  _ H locs hu hP hD hS => ?_)
  have hP : va_P (dC, dI) vwCl [(h0, .inr (2, [.long (lN 3), .long (lN 72)])), (e0, .inr (5, [.ref e1])), (e1, .inl (cJ, 70, .inr (.inl (ev))))] H := hP
  have hD : va_D A [(h0, .inr (2, [.long (lN 3), .long (lN 72)])), (e0, .inr (5, [.ref e1])), (e1, .inl (cJ, 70, .inr (.inl (ev))))] := hD
  refine lv_aload_n hx hb dX2_hashLeaf_7 rfl (lv_at hl 0 rfl) ?_
  refine lv_lload_n hx hb dX2_hashLeaf_8 rfl (lv_at hl 1 rfl) ?_
  refine st_callv (va_runV (As := [.long ov]) (rest := []) ⟨hx, hb, hml, hown, hts⟩ (c_Hasher_add l dC dI cJ cI h0 (lN 3, lN 72) ov  H.size) (cwV 1 hts gX2_hashLeaf_X2_add rfl rfl rfl (by decide +kernel) ⟨Nat.le_of_ble_eq_true rfl, Nat.le_of_ble_eq_true rfl⟩) (st_preV hK hP hD [0] rfl rfl (ci := 2) (q0 := 0) rfl rfl) rfl rfl hl.1 rfl (lv_room (Nat.le_of_ble_eq_true rfl)) dX2_hashLeaf_9 ⟨Nat.le_of_ble_eq_true rfl, Nat.le_of_ble_eq_true rfl⟩) hP hD hS hA [0] [1, 2] (wr := [(e0, .inr (5, [.ref e1])), (e1, .inl (cJ, 70, .inr (.inl (ev))))]) rfl rfl (by decide) (by decide) [2, 0, 1] (res := fun _ => [(h0, .inr (2, [.long ((ha (lN 3, lN 72) ov).1), .long ((ha (lN 3, lN 72) ov).2)])), (e0, .inr (5, [.ref e1])), (e1, .inl (cJ, 70, .inr (.inl (ev))))]) (fun _ => rfl) (by decide) (fun  _ H locs hu hP hD hS => ?_)
  have hP : va_P (dC, dI) vwCl [(h0, .inr (2, [.long ((ha (lN 3, lN 72) ov).1), .long ((ha (lN 3, lN 72) ov).2)])), (e0, .inr (5, [.ref e1])), (e1, .inl (cJ, 70, .inr (.inl (ev))))] H := hP
  have hD : va_D A [(h0, .inr (2, [.long ((ha (lN 3, lN 72) ov).1), .long ((ha (lN 3, lN 72) ov).2)])), (e0, .inr (5, [.ref e1])), (e1, .inl (cJ, 70, .inr (.inl (ev))))] := hD
  refine lv_aload_n hx hb dX2_hashLeaf_12 rfl (lv_at hl 0 rfl) ?_
  refine lv_iload_n hx hb dX2_hashLeaf_13 rfl (lv_at hl 2 rfl) ?_
  refine lv_i2l (v := lN lf) hx hb dX2_hashLeaf_14 (nI_l (by omega)) ?_
  refine st_callv (va_runV (As := [.long (lN lf)]) (rest := []) ⟨hx, hb, hml, hown, hts⟩ (c_Hasher_add l dC dI cJ cI h0 (ha (lN 3, lN 72) ov) (lN lf)  H.size) (cwV 1 hts gX2_hashLeaf_X2_add rfl rfl rfl (by decide +kernel) ⟨Nat.le_of_ble_eq_true rfl, Nat.le_of_ble_eq_true rfl⟩) (st_preV hK hP hD [0] rfl rfl (ci := 2) (q0 := 0) rfl rfl) rfl rfl hl.1 rfl (lv_room (Nat.le_of_ble_eq_true rfl)) dX2_hashLeaf_15 ⟨Nat.le_of_ble_eq_true rfl, Nat.le_of_ble_eq_true rfl⟩) hP hD hS hA [0] [1, 2] (wr := [(e0, .inr (5, [.ref e1])), (e1, .inl (cJ, 70, .inr (.inl (ev))))]) rfl rfl (by decide) (by decide) [2, 0, 1] (res := fun _ => [(h0, .inr (2, [.long ((ha (ha (lN 3, lN 72) ov) (lN lf)).1), .long ((ha (ha (lN 3, lN 72) ov) (lN lf)).2)])), (e0, .inr (5, [.ref e1])), (e1, .inl (cJ, 70, .inr (.inl (ev))))]) (fun _ => rfl) (by decide) (fun  _ H locs hu hP hD hS => ?_)
  have hP : va_P (dC, dI) vwCl [(h0, .inr (2, [.long ((ha (ha (lN 3, lN 72) ov) (lN lf)).1), .long ((ha (ha (lN 3, lN 72) ov) (lN lf)).2)])), (e0, .inr (5, [.ref e1])), (e1, .inl (cJ, 70, .inr (.inl (ev))))] H := hP
  have hD : va_D A [(h0, .inr (2, [.long ((ha (ha (lN 3, lN 72) ov) (lN lf)).1), .long ((ha (ha (lN 3, lN 72) ov) (lN lf)).2)])), (e0, .inr (5, [.ref e1])), (e1, .inl (cJ, 70, .inr (.inl (ev))))] := hD
  refine lv_iconst (v := nI 0) hx hb dX2_hashLeaf_18 (by decide) ?_
  refine lv_istore (lv' := [(5, .int (nI 0)), (0, .ref h0), (1, .long ov), (3, .int (nI lf)), (4, .ref e0)]) hx hb dX2_hashLeaf_19 hl (by decide) rfl (fun ls hl => ?_)
  have eW_1 : ([(h0, .inr (2, [.long ((ha (ha (lN 3, lN 72) ov) (lN lf)).1), .long ((ha (ha (lN 3, lN 72) ov) (lN lf)).2)])), (e0, .inr (5, [.ref e1])), (e1, .inl (cJ, 70, .inr (.inl (ev))))] : va_W) = [(h0, .inr (2, [.long ((hm (ha (ha (lN 3, lN 72) ov) (lN lf)) ev (2 * 0)).1), .long ((hm (ha (ha (lN 3, lN 72) ov) (lN lf)) ev (2 * 0)).2)])), (e0, .inr (5, [.ref e1])), (e1, .inl (cJ, 70, .inr (.inl (ev))))] := rfl
  have hP : va_P (dC, dI) vwCl [(h0, .inr (2, [.long ((hm (ha (ha (lN 3, lN 72) ov) (lN lf)) ev (2 * 0)).1), .long ((hm (ha (ha (lN 3, lN 72) ov) (lN lf)) ev (2 * 0)).2)])), (e0, .inr (5, [.ref e1])), (e1, .inl (cJ, 70, .inr (.inl (ev))))] H := by rw [← eW_1]; exact hP
  have hD : va_D A [(h0, .inr (2, [.long ((hm (ha (ha (lN 3, lN 72) ov) (lN lf)) ev (2 * 0)).1), .long ((hm (ha (ha (lN 3, lN 72) ov) (lN lf)) ev (2 * 0)).2)])), (e0, .inr (5, [.ref e1])), (e1, .inl (cJ, 70, .inr (.inl (ev))))] := by rw [← eW_1]; exact hD
  refine st_loop (I := fun i H locs ls => va_P (dC, dI) vwCl [(h0, .inr (2, [.long (hm (ha (ha (lN 3, lN 72) ov) (lN lf)) ev (2 * i)).1, .long (hm (ha (ha (lN 3, lN 72) ov) (lN lf)) ev (2 * i)).2])), (e0, .inr (5, [.ref e1])), (e1, .inl (cJ, 70, .inr (.inl (ev))))] H ∧ va_D A [(h0, .inr (2, [.long (hm (ha (ha (lN 3, lN 72) ov) (lN lf)) ev (2 * i)).1, .long (hm (ha (ha (lN 3, lN 72) ov) (lN lf)) ev (2 * i)).2])), (e0, .inr (5, [.ref e1])), (e1, .inl (cJ, 70, .inr (.inl (ev))))] ∧ va_S A s.heap H locs ∧ lv_has ls 6 [(0, .ref h0), (1, .long ov), (3, .int (nI lf)), (4, .ref e0), (5, .int (nI i))]) 0 35 (by omega) ⟨hP, hD, hS, lv_sub hl [1, 2, 3, 4, 0] rfl⟩ (fun H locs ls hI => ?_) (fun i H locs ls hi hI ih => ?_)
  ·
    obtain ⟨hP, hD, hS, hl⟩ := hI
    have hP : va_P (dC, dI) vwCl [(h0, .inr (2, [.long ((hm (ha (ha (lN 3, lN 72) ov) (lN lf)) ev (2 * 35)).1), .long ((hm (ha (ha (lN 3, lN 72) ov) (lN lf)) ev (2 * 35)).2)])), (e0, .inr (5, [.ref e1])), (e1, .inl (cJ, 70, .inr (.inl (ev))))] H := hP
    have hD : va_D A [(h0, .inr (2, [.long ((hm (ha (ha (lN 3, lN 72) ov) (lN lf)) ev (2 * 35)).1), .long ((hm (ha (ha (lN 3, lN 72) ov) (lN lf)) ev (2 * 35)).2)])), (e0, .inr (5, [.ref e1])), (e1, .inl (cJ, 70, .inr (.inl (ev))))] := hD
    have hl : lv_has ls 6 [(0, .ref h0), (1, .long ov), (3, .int (nI lf)), (4, .ref e0), (5, .int (nI 35))] := hl
    refine lv_iload hx hb dX2_hashLeaf_21 (lv_at hl 4 rfl) ?_
    refine lv_bipush (v := nI 35) hx hb dX2_hashLeaf_23 (by decide) ?_
    refine lv_icmp_ge (tgt := 42) hx hb dX2_hashLeaf_25 (by decide) (fun c25 => ?_) (fun c25 => ?_)
    ·
      rw [q_le (by omega) (by omega)] at c25
      have eW_2 : ([(h0, .inr (2, [.long ((hm (ha (ha (lN 3, lN 72) ov) (lN lf)) ev (2 * 35)).1), .long ((hm (ha (ha (lN 3, lN 72) ov) (lN lf)) ev (2 * 35)).2)])), (e0, .inr (5, [.ref e1])), (e1, .inl (cJ, 70, .inr (.inl (ev))))] : va_W) = [(h0, .inr (2, [.long ((hm (ha (ha (lN 3, lN 72) ov) (lN lf)) ev 70).1), .long ((hm (ha (ha (lN 3, lN 72) ov) (lN lf)) ev 70).2)])), (e0, .inr (5, [.ref e1])), (e1, .inl (cJ, 70, .inr (.inl (ev))))] := rfl
      have hP : va_P (dC, dI) vwCl [(h0, .inr (2, [.long ((hm (ha (ha (lN 3, lN 72) ov) (lN lf)) ev 70).1), .long ((hm (ha (ha (lN 3, lN 72) ov) (lN lf)) ev 70).2)])), (e0, .inr (5, [.ref e1])), (e1, .inl (cJ, 70, .inr (.inl (ev))))] H := by rw [← eW_2]; exact hP
      have hD : va_D A [(h0, .inr (2, [.long ((hm (ha (ha (lN 3, lN 72) ov) (lN lf)) ev 70).1), .long ((hm (ha (ha (lN 3, lN 72) ov) (lN lf)) ev 70).2)])), (e0, .inr (5, [.ref e1])), (e1, .inl (cJ, 70, .inr (.inl (ev))))] := by rw [← eW_2]; exact hD
      exact W.vret hx hb hr (fun t ht hW => ⟨⟨(), rfl, trivial, by rw [ht]; exact hP, va_K.moved hW.alike hK, hD⟩, hS.F ht⟩) hS.2.2 dX2_hashLeaf_42
    ·
      rw [q_le (by omega) (by omega)] at c25
      exact absurd c25 (by omega)
  ·
    obtain ⟨hP, hD, hS, hl⟩ := hI
    have hP : va_P (dC, dI) vwCl [(h0, .inr (2, [.long ((hm (ha (ha (lN 3, lN 72) ov) (lN lf)) ev (2 * i)).1), .long ((hm (ha (ha (lN 3, lN 72) ov) (lN lf)) ev (2 * i)).2)])), (e0, .inr (5, [.ref e1])), (e1, .inl (cJ, 70, .inr (.inl (ev))))] H := hP
    have hD : va_D A [(h0, .inr (2, [.long ((hm (ha (ha (lN 3, lN 72) ov) (lN lf)) ev (2 * i)).1), .long ((hm (ha (ha (lN 3, lN 72) ov) (lN lf)) ev (2 * i)).2)])), (e0, .inr (5, [.ref e1])), (e1, .inl (cJ, 70, .inr (.inl (ev))))] := hD
    have hl : lv_has ls 6 [(0, .ref h0), (1, .long ov), (3, .int (nI lf)), (4, .ref e0), (5, .int (nI i))] := hl
    refine lv_iload hx hb dX2_hashLeaf_21 (lv_at hl 4 rfl) ?_
    refine lv_bipush (v := nI 35) hx hb dX2_hashLeaf_23 (by decide) ?_
    refine lv_icmp_ge (tgt := 42) hx hb dX2_hashLeaf_25 (by decide) (fun c25 => ?_) (fun c25 => ?_)
    ·
      rw [q_le (by omega) (by omega)] at c25
      exact absurd c25 (by omega)
    ·
      rw [q_le (by omega) (by omega)] at c25
      refine lv_aload_n hx hb dX2_hashLeaf_28 rfl (lv_at hl 0 rfl) ?_
      refine lv_aload hx hb dX2_hashLeaf_29 (lv_at hl 3 rfl) ?_
      refine lv_iload hx hb dX2_hashLeaf_31 (lv_at hl 4 rfl) ?_
      refine st_callv (va_runV (As := [.ref e0, .int (nI i)]) (rest := []) ⟨hx, hb, hml, hown, hts⟩ (c_Hasher_addPair l dC dI cJ cI h0 e0 e1 (hm (ha (ha (lN 3, lN 72) ov) (lN lf)) ev (2 * i)) 70 ev i (by omega) (by omega) H.size) (cwV 2 hts gX2_hashLeaf_X2_addPair rfl rfl rfl (by decide +kernel) ⟨Nat.le_of_ble_eq_true rfl, Nat.le_of_ble_eq_true rfl⟩) (st_preV hK hP hD [0, 1, 2] rfl rfl (ci := 2) (q0 := 0) rfl rfl) rfl rfl hl.1 rfl (lv_room (Nat.le_of_ble_eq_true rfl)) dX2_hashLeaf_33 ⟨Nat.le_of_ble_eq_true rfl, Nat.le_of_ble_eq_true rfl⟩) hP hD hS hA [0, 1, 2] [] (wr := []) rfl rfl (by decide) (by decide) [0, 1, 2] (res := fun _ => [(h0, .inr (2, [.long ((ha (ha (hm (ha (ha (lN 3, lN 72) ov) (lN lf)) ev (2 * i)) (ev (2 * i))) (ev (2 * i + 1))).1), .long ((ha (ha (hm (ha (ha (lN 3, lN 72) ov) (lN lf)) ev (2 * i)) (ev (2 * i))) (ev (2 * i + 1))).2)])), (e0, .inr (5, [.ref e1])), (e1, .inl (cJ, 70, .inr (.inl (ev))))]) (fun _ => rfl) (by decide) (fun  _ H locs hu hP hD hS => ?_)
      have hP : va_P (dC, dI) vwCl [(h0, .inr (2, [.long ((ha (ha (hm (ha (ha (lN 3, lN 72) ov) (lN lf)) ev (2 * i)) (ev (2 * i))) (ev (2 * i + 1))).1), .long ((ha (ha (hm (ha (ha (lN 3, lN 72) ov) (lN lf)) ev (2 * i)) (ev (2 * i))) (ev (2 * i + 1))).2)])), (e0, .inr (5, [.ref e1])), (e1, .inl (cJ, 70, .inr (.inl (ev))))] H := hP
      have hD : va_D A [(h0, .inr (2, [.long ((ha (ha (hm (ha (ha (lN 3, lN 72) ov) (lN lf)) ev (2 * i)) (ev (2 * i))) (ev (2 * i + 1))).1), .long ((ha (ha (hm (ha (ha (lN 3, lN 72) ov) (lN lf)) ev (2 * i)) (ev (2 * i))) (ev (2 * i + 1))).2)])), (e0, .inr (5, [.ref e1])), (e1, .inl (cJ, 70, .inr (.inl (ev))))] := hD
      refine lv_iinc (v := nI (i + 1)) (lv' := [(5, .int (nI (i + 1))), (0, .ref h0), (1, .long ov), (3, .int (nI lf)), (4, .ref e0)]) hx hb dX2_hashLeaf_36 hl (k := 4) rfl (st_inc i 1 (by decide)) (by decide) rfl (fun ls hl => ?_)
      refine lv_goto (tgt := 21) hx hb dX2_hashLeaf_39 (by decide) ?_
      have eW_3 : ([(h0, .inr (2, [.long ((ha (ha (hm (ha (ha (lN 3, lN 72) ov) (lN lf)) ev (2 * i)) (ev (2 * i))) (ev (2 * i + 1))).1), .long ((ha (ha (hm (ha (ha (lN 3, lN 72) ov) (lN lf)) ev (2 * i)) (ev (2 * i))) (ev (2 * i + 1))).2)])), (e0, .inr (5, [.ref e1])), (e1, .inl (cJ, 70, .inr (.inl (ev))))] : va_W) = [(h0, .inr (2, [.long ((hm (ha (ha (lN 3, lN 72) ov) (lN lf)) ev (2 * (i + 1))).1), .long ((hm (ha (ha (lN 3, lN 72) ov) (lN lf)) ev (2 * (i + 1))).2)])), (e0, .inr (5, [.ref e1])), (e1, .inl (cJ, 70, .inr (.inl (ev))))] := by rw [hm_2]
      have hP : va_P (dC, dI) vwCl [(h0, .inr (2, [.long ((hm (ha (ha (lN 3, lN 72) ov) (lN lf)) ev (2 * (i + 1))).1), .long ((hm (ha (ha (lN 3, lN 72) ov) (lN lf)) ev (2 * (i + 1))).2)])), (e0, .inr (5, [.ref e1])), (e1, .inl (cJ, 70, .inr (.inl (ev))))] H := by rw [← eW_3]; exact hP
      have hD : va_D A [(h0, .inr (2, [.long ((hm (ha (ha (lN 3, lN 72) ov) (lN lf)) ev (2 * (i + 1))).1), .long ((hm (ha (ha (lN 3, lN 72) ov) (lN lf)) ev (2 * (i + 1))).2)])), (e0, .inr (5, [.ref e1])), (e1, .inl (cJ, 70, .inr (.inl (ev))))] := by rw [← eW_3]; exact hD
      exact ih _ _ _ ⟨hP, hD, hS, lv_sub hl [1, 2, 3, 4, 0] rfl⟩

set_option maxHeartbeats 4000000 in
set_option maxRecDepth 100000 in
theorem c_Hasher_startNode (l : Launch) (dC : Nat → ClassId) (dI : Nat → Nat → Nat) (cJ cI : ClassId) (h0 : Nat) (pv : Int64 × Int64) (ov : Int64) (lv iv : Nat) (hlv : lv < 2 ^ 31) (hiv : iv < 2 ^ 31) (sz : Nat) : Met l yX2_startNode wsX2_startNode ({ frames := 2, cells := 0, slots := 0, locals := 47 }) (va_Pc [.ref h0, .long ov, .int (nI lv), .int (nI iv)] (st_B (dC, dI) vwCl [(cJ, .long), (cI, .int)] [(h0, .inr (2, [.long pv.1, .long pv.2]))] sz)) (va_Qv (fun _ : Unit => True) (st_E (dC, dI) vwCl [(cJ, .long), (cI, .int)] (va_A [(h0, .inr (2, [.long pv.1, .long pv.2]))] sz) (fun _ => [(h0, .inr (2, [.long ((ha (ha (ha (lN 4, lN 7) ov) (lN lv)) (lN iv)).1), .long ((ha (ha (ha (lN 4, lN 7) ov) (lN lv)) (lN iv)).2)]))])) (va_A [(h0, .inr (2, [.long pv.1, .long pv.2]))] sz)) 0 0 (va_A [(h0, .inr (2, [.long pv.1, .long pv.2]))] sz) := by
  refine Met.ofW (cc := cX2_startNode) (maxL := 5) (ret := none) (by decide) rfl ?_
  intro p e s m args below meth c s₁ B hml hv
  obtain ⟨rfl, hsz, hP, hK, hD0⟩ := hv
  have hx := B.exec
  have hb := B.bytes
  have hr := B.returns
  have hts := atoms_spec (ws := wsX2_startNode) B.pre
  have hown : s.vm.findClass RX2 = some m.cls := findClass_of_methodNamed B.named
  have hlocks := B.notSynchronized
  subst hsz
  have hD := hD0.self (sz := s.heap.size)
  generalize hAe : va_A [(h0, .inr (2, [.long pv.1, .long pv.2]))] s.heap.size = A at hD ⊢
  have hA : ∀ q : Nat, s.heap.size ≤ q → A q := fun q h => by rw [← hAe]; exact Or.inr h
  have hS : va_S A s.heap s.heap [] := va_S.rf
  have hP : va_P (dC, dI) vwCl [(h0, .inr (2, [.long pv.1, .long pv.2]))] s.heap := hP
  have hl := lv_entry ([.ref h0, .long ov, .int (nI lv), .int (nI iv)]) (n := 5) (Nat.le_of_ble_eq_true rfl)
  rw [lg_entry_eq]
  generalize (lg_sl ([.ref h0, .long ov, .int (nI lv), .int (nI iv)]) ++ List.replicate (5 - (lg_sl ([.ref h0, .long ov, .int (nI lv), .int (nI iv)])).length) Slot.unset).toArray = ls at hl ⊢
  have hl : lv_has ls 5 [(0, .ref h0), (1, .long ov), (3, .int (nI lv)), (4, .int (nI iv))] := hl
  refine lv_aload_n hx hb dX2_startNode_0 rfl (lv_at hl 0 rfl) ?_
  refine lv_iconst (v := nI 4) hx hb dX2_startNode_1 (by decide) ?_
  refine lv_bipush (v := nI 7) hx hb dX2_startNode_2 (by decide) ?_
  refine st_callv (va_runV (As := [.int (nI 4), .int (nI 7)]) (rest := []) ⟨hx, hb, hml, hown, hts⟩ (c_Hasher_start l dC dI cJ cI h0 pv (nI 4) (nI 7) (lN 4) (lN 7) (nI_l (by omega)) (nI_l (by omega)) s.heap.size) (cwV 2 hts gX2_startNode_X2_start rfl rfl rfl (by decide +kernel) ⟨Nat.le_of_ble_eq_true rfl, Nat.le_of_ble_eq_true rfl⟩) (st_preV hK hP hD [0] rfl rfl (ci := 2) (q0 := 0) rfl rfl) rfl rfl hl.1 rfl (lv_room (Nat.le_of_ble_eq_true rfl)) dX2_startNode_4 ⟨Nat.le_of_ble_eq_true rfl, Nat.le_of_ble_eq_true rfl⟩) hP hD hS hA [0] [] (wr := []) rfl rfl (by decide) (by decide) [0] (res := fun _ => [(h0, .inr (2, [.long (lN 4), .long (lN 7)]))]) (fun _ => rfl) (by decide) (fun  _ H locs hu hP hD hS => ?_)
  have hP : va_P (dC, dI) vwCl [(h0, .inr (2, [.long (lN 4), .long (lN 7)]))] H := hP
  have hD : va_D A [(h0, .inr (2, [.long (lN 4), .long (lN 7)]))] := hD
  refine lv_aload_n hx hb dX2_startNode_7 rfl (lv_at hl 0 rfl) ?_
  refine lv_lload_n hx hb dX2_startNode_8 rfl (lv_at hl 1 rfl) ?_
  refine st_callv (va_runV (As := [.long ov]) (rest := []) ⟨hx, hb, hml, hown, hts⟩ (c_Hasher_add l dC dI cJ cI h0 (lN 4, lN 7) ov  H.size) (cwV 1 hts gX2_startNode_X2_add rfl rfl rfl (by decide +kernel) ⟨Nat.le_of_ble_eq_true rfl, Nat.le_of_ble_eq_true rfl⟩) (st_preV hK hP hD [0] rfl rfl (ci := 2) (q0 := 0) rfl rfl) rfl rfl hl.1 rfl (lv_room (Nat.le_of_ble_eq_true rfl)) dX2_startNode_9 ⟨Nat.le_of_ble_eq_true rfl, Nat.le_of_ble_eq_true rfl⟩) hP hD hS hA [0] [] (wr := []) rfl rfl (by decide) (by decide) [0] (res := fun _ => [(h0, .inr (2, [.long ((ha (lN 4, lN 7) ov).1), .long ((ha (lN 4, lN 7) ov).2)]))]) (fun _ => rfl) (by decide) (fun  _ H locs hu hP hD hS => ?_)
  have hP : va_P (dC, dI) vwCl [(h0, .inr (2, [.long ((ha (lN 4, lN 7) ov).1), .long ((ha (lN 4, lN 7) ov).2)]))] H := hP
  have hD : va_D A [(h0, .inr (2, [.long ((ha (lN 4, lN 7) ov).1), .long ((ha (lN 4, lN 7) ov).2)]))] := hD
  refine lv_aload_n hx hb dX2_startNode_12 rfl (lv_at hl 0 rfl) ?_
  refine lv_iload_n hx hb dX2_startNode_13 rfl (lv_at hl 2 rfl) ?_
  refine lv_i2l (v := lN lv) hx hb dX2_startNode_14 (nI_l (by omega)) ?_
  refine st_callv (va_runV (As := [.long (lN lv)]) (rest := []) ⟨hx, hb, hml, hown, hts⟩ (c_Hasher_add l dC dI cJ cI h0 (ha (lN 4, lN 7) ov) (lN lv)  H.size) (cwV 1 hts gX2_startNode_X2_add rfl rfl rfl (by decide +kernel) ⟨Nat.le_of_ble_eq_true rfl, Nat.le_of_ble_eq_true rfl⟩) (st_preV hK hP hD [0] rfl rfl (ci := 2) (q0 := 0) rfl rfl) rfl rfl hl.1 rfl (lv_room (Nat.le_of_ble_eq_true rfl)) dX2_startNode_15 ⟨Nat.le_of_ble_eq_true rfl, Nat.le_of_ble_eq_true rfl⟩) hP hD hS hA [0] [] (wr := []) rfl rfl (by decide) (by decide) [0] (res := fun _ => [(h0, .inr (2, [.long ((ha (ha (lN 4, lN 7) ov) (lN lv)).1), .long ((ha (ha (lN 4, lN 7) ov) (lN lv)).2)]))]) (fun _ => rfl) (by decide) (fun  _ H locs hu hP hD hS => ?_)
  have hP : va_P (dC, dI) vwCl [(h0, .inr (2, [.long ((ha (ha (lN 4, lN 7) ov) (lN lv)).1), .long ((ha (ha (lN 4, lN 7) ov) (lN lv)).2)]))] H := hP
  have hD : va_D A [(h0, .inr (2, [.long ((ha (ha (lN 4, lN 7) ov) (lN lv)).1), .long ((ha (ha (lN 4, lN 7) ov) (lN lv)).2)]))] := hD
  refine lv_aload_n hx hb dX2_startNode_18 rfl (lv_at hl 0 rfl) ?_
  refine lv_iload hx hb dX2_startNode_19 (lv_at hl 3 rfl) ?_
  refine lv_i2l (v := lN iv) hx hb dX2_startNode_21 (nI_l (by omega)) ?_
  refine st_callv (va_runV (As := [.long (lN iv)]) (rest := []) ⟨hx, hb, hml, hown, hts⟩ (c_Hasher_add l dC dI cJ cI h0 (ha (ha (lN 4, lN 7) ov) (lN lv)) (lN iv)  H.size) (cwV 1 hts gX2_startNode_X2_add rfl rfl rfl (by decide +kernel) ⟨Nat.le_of_ble_eq_true rfl, Nat.le_of_ble_eq_true rfl⟩) (st_preV hK hP hD [0] rfl rfl (ci := 2) (q0 := 0) rfl rfl) rfl rfl hl.1 rfl (lv_room (Nat.le_of_ble_eq_true rfl)) dX2_startNode_22 ⟨Nat.le_of_ble_eq_true rfl, Nat.le_of_ble_eq_true rfl⟩) hP hD hS hA [0] [] (wr := []) rfl rfl (by decide) (by decide) [0] (res := fun _ => [(h0, .inr (2, [.long ((ha (ha (ha (lN 4, lN 7) ov) (lN lv)) (lN iv)).1), .long ((ha (ha (ha (lN 4, lN 7) ov) (lN lv)) (lN iv)).2)]))]) (fun _ => rfl) (by decide) (fun  _ H locs hu hP hD hS => ?_)
  have hP : va_P (dC, dI) vwCl [(h0, .inr (2, [.long ((ha (ha (ha (lN 4, lN 7) ov) (lN lv)) (lN iv)).1), .long ((ha (ha (ha (lN 4, lN 7) ov) (lN lv)) (lN iv)).2)]))] H := hP
  have hD : va_D A [(h0, .inr (2, [.long ((ha (ha (ha (lN 4, lN 7) ov) (lN lv)) (lN iv)).1), .long ((ha (ha (ha (lN 4, lN 7) ov) (lN lv)) (lN iv)).2)]))] := hD
  exact W.vret hx hb hr (fun t ht hW => ⟨⟨(), rfl, trivial, by rw [ht]; exact hP, va_K.moved hW.alike hK, hD⟩, hS.F ht⟩) hS.2.2 dX2_startNode_25

set_option maxHeartbeats 4000000 in
set_option maxRecDepth 100000 in
theorem c_Hasher_giveTo (l : Launch) (dC : Nat → ClassId) (dI : Nat → Nat → Nat) (cJ cI : ClassId) (h0 r0 r1 : Nat) (pv : Int64 × Int64) (nn : Nat) (fv : Nat → Int64) (k : Nat) (hk : 2 * k + 1 < nn) (hn : nn < 2 ^ 31) (sz : Nat) : Met l yX2_giveTo wsX2_giveTo ({ frames := 1, cells := 0, slots := 0, locals := 24 }) (va_Pc [.ref h0, .ref r0, .int (nI k)] (st_B (dC, dI) vwCl [(cJ, .long), (cI, .int)] [(h0, .inr (2, [.long pv.1, .long pv.2])), (r0, .inr (5, [.ref r1])), (r1, .inl (cJ, nn, .inr (.inl (fv))))] sz)) (va_Qv (fun _ : Unit => True) (st_E (dC, dI) vwCl [(cJ, .long), (cI, .int)] (va_A [(h0, .inr (2, [.long pv.1, .long pv.2])), (r0, .inr (5, [.ref r1])), (r1, .inl (cJ, nn, .inr (.inl (fv))))] sz) (fun _ => [(h0, .inr (2, [.long pv.1, .long pv.2])), (r0, .inr (5, [.ref r1])), (r1, .inl (cJ, nn, .inr (.inl (setP fv k pv))))])) (va_A [(h0, .inr (2, [.long pv.1, .long pv.2])), (r0, .inr (5, [.ref r1])), (r1, .inl (cJ, nn, .inr (.inl (fv))))] sz)) 0 0 (va_A [(h0, .inr (2, [.long pv.1, .long pv.2])), (r0, .inr (5, [.ref r1])), (r1, .inl (cJ, nn, .inr (.inl (fv))))] sz) := by
  refine Met.ofW (cc := cX2_giveTo) (maxL := 3) (ret := none) (by decide) rfl ?_
  intro p e s m args below meth c s₁ B hml hv
  obtain ⟨rfl, hsz, hP, hK, hD0⟩ := hv
  have hx := B.exec
  have hb := B.bytes
  have hr := B.returns
  have hts := atoms_spec (ws := wsX2_giveTo) B.pre
  have hown : s.vm.findClass RX2 = some m.cls := findClass_of_methodNamed B.named
  have hlocks := B.notSynchronized
  subst hsz
  have hD := hD0.self (sz := s.heap.size)
  generalize hAe : va_A [(h0, .inr (2, [.long pv.1, .long pv.2])), (r0, .inr (5, [.ref r1])), (r1, .inl (cJ, nn, .inr (.inl (fv))))] s.heap.size = A at hD ⊢
  have hA : ∀ q : Nat, s.heap.size ≤ q → A q := fun q h => by rw [← hAe]; exact Or.inr h
  have hS : va_S A s.heap s.heap [] := va_S.rf
  have hP : va_P (dC, dI) vwCl [(h0, .inr (2, [.long pv.1, .long pv.2])), (r0, .inr (5, [.ref r1])), (r1, .inl (cJ, nn, .inr (.inl (fv))))] s.heap := hP
  have hl := lv_entry ([.ref h0, .ref r0, .int (nI k)]) (n := 3) (Nat.le_of_ble_eq_true rfl)
  rw [lg_entry_eq]
  generalize (lg_sl ([.ref h0, .ref r0, .int (nI k)]) ++ List.replicate (3 - (lg_sl ([.ref h0, .ref r0, .int (nI k)])).length) Slot.unset).toArray = ls at hl ⊢
  have iX2 : ∀ w ∈ wsX20, w ∈ wsX2_giveTo := by decide +kernel
  have f9 := hts (.fieldLink RX2 9 "LeafSigner$Hasher" "a" "J") (by decide +kernel)
  have f15 := hts (.fieldLink RX2 15 "LeafSigner$Hasher" "b" "J") (by decide +kernel)
  have hl : lv_has ls 3 [(0, .ref h0), (1, .ref r0), (2, .int (nI k))] := hl
  refine lv_aload_n hx hb dX2_giveTo_0 rfl (lv_at hl 1 rfl) ?_
  refine lv_iload_n hx hb dX2_giveTo_1 rfl (lv_at hl 2 rfl) ?_
  refine lv_iconst (v := nI 0) hx hb dX2_giveTo_2 (by decide) ?_
  refine lv_aload_n hx hb dX2_giveTo_3 rfl (lv_at hl 0 rfl) ?_
  refine va_get (D := (dC, dI)) (ci := 2) (v := .long pv.1) (C := RX2) (T := TX2) (N := 2) hx hb hts iX2 hown hK hP 0 rfl rfl 0 (by decide) f9 (fun _ h9 => h9) rfl dX2_giveTo_4 ?_
  refine st_callv (va_runV (As := [.int (nI k), .int (nI 0), .long pv.1]) (rest := []) ⟨hx, hb, hml, hown, hts⟩ (c_Pairs_put l dC dI cJ cI r0 r1 nn fv k 0 pv.1 (by omega) (by omega) s.heap.size) (cwV 3 hts gX2_giveTo_X5_put rfl rfl rfl (by decide +kernel) ⟨Nat.le_of_ble_eq_true rfl, Nat.le_of_ble_eq_true rfl⟩) (st_preV hK hP hD [1, 2] rfl rfl (ci := 5) (q0 := 0) rfl rfl) rfl rfl hl.1 rfl (lv_room (Nat.le_of_ble_eq_true rfl)) dX2_giveTo_7 ⟨Nat.le_of_ble_eq_true rfl, Nat.le_of_ble_eq_true rfl⟩) hP hD hS hA [1, 2] [0] (wr := [(h0, .inr (2, [.long pv.1, .long pv.2]))]) rfl rfl (by decide) (by decide) [0, 1, 2] (res := fun _ => [(h0, .inr (2, [.long pv.1, .long pv.2])), (r0, .inr (5, [.ref r1])), (r1, .inl (cJ, nn, .inr (.inl (vp_updL fv (2 * k) pv.1))))]) (fun _ => rfl) (by decide) (fun  _ H locs hu hP hD hS => ?_)
  have hP : va_P (dC, dI) vwCl [(h0, .inr (2, [.long pv.1, .long pv.2])), (r0, .inr (5, [.ref r1])), (r1, .inl (cJ, nn, .inr (.inl (vp_updL fv (2 * k) pv.1))))] H := hP
  have hD : va_D A [(h0, .inr (2, [.long pv.1, .long pv.2])), (r0, .inr (5, [.ref r1])), (r1, .inl (cJ, nn, .inr (.inl (vp_updL fv (2 * k) pv.1))))] := hD
  refine lv_aload_n hx hb dX2_giveTo_10 rfl (lv_at hl 1 rfl) ?_
  refine lv_iload_n hx hb dX2_giveTo_11 rfl (lv_at hl 2 rfl) ?_
  refine lv_iconst (v := nI 1) hx hb dX2_giveTo_12 (by decide) ?_
  refine lv_aload_n hx hb dX2_giveTo_13 rfl (lv_at hl 0 rfl) ?_
  refine va_get (D := (dC, dI)) (ci := 2) (v := .long pv.2) (C := RX2) (T := TX2) (N := 2) hx hb hts iX2 hown hK hP 0 rfl rfl 1 (by decide) f15 (fun _ h9 => h9) rfl dX2_giveTo_14 ?_
  refine st_callv (va_runV (As := [.int (nI k), .int (nI 1), .long pv.2]) (rest := []) ⟨hx, hb, hml, hown, hts⟩ (c_Pairs_put l dC dI cJ cI r0 r1 nn (vp_updL fv (2 * k) pv.1) k 1 pv.2 (by omega) (by omega) H.size) (cwV 3 hts gX2_giveTo_X5_put rfl rfl rfl (by decide +kernel) ⟨Nat.le_of_ble_eq_true rfl, Nat.le_of_ble_eq_true rfl⟩) (st_preV hK hP hD [1, 2] rfl rfl (ci := 5) (q0 := 0) rfl rfl) rfl rfl hl.1 rfl (lv_room (Nat.le_of_ble_eq_true rfl)) dX2_giveTo_17 ⟨Nat.le_of_ble_eq_true rfl, Nat.le_of_ble_eq_true rfl⟩) hP hD hS hA [1, 2] [0] (wr := [(h0, .inr (2, [.long pv.1, .long pv.2]))]) rfl rfl (by decide) (by decide) [0, 1, 2] (res := fun _ => [(h0, .inr (2, [.long pv.1, .long pv.2])), (r0, .inr (5, [.ref r1])), (r1, .inl (cJ, nn, .inr (.inl (vp_updL (vp_updL fv (2 * k) pv.1) (2 * k + 1) pv.2))))]) (fun _ => rfl) (by decide) (fun  _ H locs hu hP hD hS => ?_)
  have hP : va_P (dC, dI) vwCl [(h0, .inr (2, [.long pv.1, .long pv.2])), (r0, .inr (5, [.ref r1])), (r1, .inl (cJ, nn, .inr (.inl (vp_updL (vp_updL fv (2 * k) pv.1) (2 * k + 1) pv.2))))] H := hP
  have hD : va_D A [(h0, .inr (2, [.long pv.1, .long pv.2])), (r0, .inr (5, [.ref r1])), (r1, .inl (cJ, nn, .inr (.inl (vp_updL (vp_updL fv (2 * k) pv.1) (2 * k + 1) pv.2))))] := hD
  have eW_1 : ([(h0, .inr (2, [.long pv.1, .long pv.2])), (r0, .inr (5, [.ref r1])), (r1, .inl (cJ, nn, .inr (.inl (vp_updL (vp_updL fv (2 * k) pv.1) (2 * k + 1) pv.2))))] : va_W) = [(h0, .inr (2, [.long pv.1, .long pv.2])), (r0, .inr (5, [.ref r1])), (r1, .inl (cJ, nn, .inr (.inl (setP fv k pv))))] := rfl
  have hP : va_P (dC, dI) vwCl [(h0, .inr (2, [.long pv.1, .long pv.2])), (r0, .inr (5, [.ref r1])), (r1, .inl (cJ, nn, .inr (.inl (setP fv k pv))))] H := by rw [← eW_1]; exact hP
  have hD : va_D A [(h0, .inr (2, [.long pv.1, .long pv.2])), (r0, .inr (5, [.ref r1])), (r1, .inl (cJ, nn, .inr (.inl (setP fv k pv))))] := by rw [← eW_1]; exact hD
  exact W.vret hx hb hr (fun t ht hW => ⟨⟨(), rfl, trivial, by rw [ht]; exact hP, va_K.moved hW.alike hK, hD⟩, hS.F ht⟩) hS.2.2 dX2_giveTo_20

set_option maxHeartbeats 4000000 in
set_option maxRecDepth 100000 in
theorem c_Hasher_gave (l : Launch) (dC : Nat → ClassId) (dI : Nat → Nat → Nat) (cJ cI : ClassId) (h0 r0 r1 : Nat) (pv : Int64 × Int64) (nn : Nat) (fv : Nat → Int64) (k : Nat) (hk : 2 * k + 1 < nn) (hn : nn < 2 ^ 31) (sz : Nat) : Met l yX2_gave wsX2_gave ({ frames := 1, cells := 0, slots := 0, locals := 22 }) (va_Pc [.ref h0, .ref r0, .int (nI k)] (st_B (dC, dI) vwCl [(cJ, .long), (cI, .int)] [(h0, .inr (2, [.long pv.1, .long pv.2])), (r0, .inr (5, [.ref r1])), (r1, .inl (cJ, nn, .inr (.inl (fv))))] sz)) (va_Qi (fun (r : Int32) (_ : Unit) => r = bI (decide (fv (2 * k) = pv.1 ∧ fv (2 * k + 1) = pv.2))) (st_E (dC, dI) vwCl [(cJ, .long), (cI, .int)] (va_A [(h0, .inr (2, [.long pv.1, .long pv.2])), (r0, .inr (5, [.ref r1])), (r1, .inl (cJ, nn, .inr (.inl (fv))))] sz) (fun _ => [(h0, .inr (2, [.long pv.1, .long pv.2])), (r0, .inr (5, [.ref r1])), (r1, .inl (cJ, nn, .inr (.inl (fv))))])) (va_A [(h0, .inr (2, [.long pv.1, .long pv.2])), (r0, .inr (5, [.ref r1])), (r1, .inl (cJ, nn, .inr (.inl (fv))))] sz)) 0 0 (va_A [(h0, .inr (2, [.long pv.1, .long pv.2])), (r0, .inr (5, [.ref r1])), (r1, .inl (cJ, nn, .inr (.inl (fv))))] sz) := by
  refine Met.ofW (cc := cX2_gave) (maxL := 3) (ret := (some .boolean)) (by decide) rfl ?_
  intro p e s m args below meth c s₁ B hml hv
  obtain ⟨rfl, hsz, hP, hK, hD0⟩ := hv
  have hx := B.exec
  have hb := B.bytes
  have hr := B.returns
  have hts := atoms_spec (ws := wsX2_gave) B.pre
  have hown : s.vm.findClass RX2 = some m.cls := findClass_of_methodNamed B.named
  have hlocks := B.notSynchronized
  subst hsz
  have hD := hD0.self (sz := s.heap.size)
  generalize hAe : va_A [(h0, .inr (2, [.long pv.1, .long pv.2])), (r0, .inr (5, [.ref r1])), (r1, .inl (cJ, nn, .inr (.inl (fv))))] s.heap.size = A at hD ⊢
  have hA : ∀ q : Nat, s.heap.size ≤ q → A q := fun q h => by rw [← hAe]; exact Or.inr h
  have hS : va_S A s.heap s.heap [] := va_S.rf
  have hP : va_P (dC, dI) vwCl [(h0, .inr (2, [.long pv.1, .long pv.2])), (r0, .inr (5, [.ref r1])), (r1, .inl (cJ, nn, .inr (.inl (fv))))] s.heap := hP
  have hl := lv_entry ([.ref h0, .ref r0, .int (nI k)]) (n := 3) (Nat.le_of_ble_eq_true rfl)
  rw [lg_entry_eq]
  generalize (lg_sl ([.ref h0, .ref r0, .int (nI k)]) ++ List.replicate (3 - (lg_sl ([.ref h0, .ref r0, .int (nI k)])).length) Slot.unset).toArray = ls at hl ⊢
  have iX2 : ∀ w ∈ wsX20, w ∈ wsX2_gave := by decide +kernel
  have f9 := hts (.fieldLink RX2 9 "LeafSigner$Hasher" "a" "J") (by decide +kernel)
  have f15 := hts (.fieldLink RX2 15 "LeafSigner$Hasher" "b" "J") (by decide +kernel)
  have hl : lv_has ls 3 [(0, .ref h0), (1, .ref r0), (2, .int (nI k))] := hl
  refine lv_aload_n hx hb dX2_gave_0 rfl (lv_at hl 1 rfl) ?_
  refine lv_iload_n hx hb dX2_gave_1 rfl (lv_at hl 2 rfl) ?_
  refine lv_iconst (v := nI 0) hx hb dX2_gave_2 (by decide) ?_
  refine st_calll (va_runV (As := [.int (nI k), .int (nI 0)]) (rest := []) ⟨hx, hb, hml, hown, hts⟩ (c_Pairs_at l dC dI cJ cI r0 r1 nn fv k 0 (by omega) (by omega) s.heap.size) (cwV 2 hts gX2_gave_X5_at rfl rfl rfl (by decide +kernel) ⟨Nat.le_of_ble_eq_true rfl, Nat.le_of_ble_eq_true rfl⟩) (st_preV hK hP hD [1, 2] rfl rfl (ci := 5) (q0 := 0) rfl rfl) rfl rfl hl.1 rfl (lv_room (Nat.le_of_ble_eq_true rfl)) dX2_gave_3 ⟨Nat.le_of_ble_eq_true rfl, Nat.le_of_ble_eq_true rfl⟩) hP hD hS hA [1, 2] [0] (wr := [(h0, .inr (2, [.long pv.1, .long pv.2]))]) rfl rfl (by decide) (by decide) [0, 1, 2] (res := fun _ => [(h0, .inr (2, [.long pv.1, .long pv.2])), (r0, .inr (5, [.ref r1])), (r1, .inl (cJ, nn, .inr (.inl (fv))))]) (fun _ => rfl) (by decide) (fun r_1 _ H locs hu hP hD hS => ?_)
  have hP : va_P (dC, dI) vwCl [(h0, .inr (2, [.long pv.1, .long pv.2])), (r0, .inr (5, [.ref r1])), (r1, .inl (cJ, nn, .inr (.inl (fv))))] H := hP
  have hD : va_D A [(h0, .inr (2, [.long pv.1, .long pv.2])), (r0, .inr (5, [.ref r1])), (r1, .inl (cJ, nn, .inr (.inl (fv))))] := hD
  subst hu
  refine lv_aload_n hx hb dX2_gave_6 rfl (lv_at hl 0 rfl) ?_
  refine va_get (D := (dC, dI)) (ci := 2) (v := .long pv.1) (C := RX2) (T := TX2) (N := 2) hx hb hts iX2 hown hK hP 0 rfl rfl 0 (by decide) f9 (fun _ h9 => h9) rfl dX2_gave_7 ?_
  refine W.lcmp hx hb dX2_gave_10 ?_
  refine lv_if_ne (tgt := 32) hx hb dX2_gave_11 (by decide) (fun c11 => ?_) (fun c11 => ?_)
  ·
    rw [q_lceq] at c11
    refine lv_iconst (v := nI 0) hx hb dX2_gave_32 (by decide) ?_
    exact W.zret (v := nI 0) hx hb hr (by decide) (fun t ht hW => ⟨⟨nI 0, (), rfl, bI_f (fun q => c11 q.1), by rw [ht]; exact hP, va_K.moved hW.alike hK, hD⟩, hS.F ht⟩) hS.2.2 dX2_gave_33
  ·
    rw [q_lceq] at c11
    refine lv_aload_n hx hb dX2_gave_14 rfl (lv_at hl 1 rfl) ?_
    refine lv_iload_n hx hb dX2_gave_15 rfl (lv_at hl 2 rfl) ?_
    refine lv_iconst (v := nI 1) hx hb dX2_gave_16 (by decide) ?_
    refine st_calll (va_runV (As := [.int (nI k), .int (nI 1)]) (rest := []) ⟨hx, hb, hml, hown, hts⟩ (c_Pairs_at l dC dI cJ cI r0 r1 nn fv k 1 (by omega) (by omega) H.size) (cwV 2 hts gX2_gave_X5_at rfl rfl rfl (by decide +kernel) ⟨Nat.le_of_ble_eq_true rfl, Nat.le_of_ble_eq_true rfl⟩) (st_preV hK hP hD [1, 2] rfl rfl (ci := 5) (q0 := 0) rfl rfl) rfl rfl hl.1 rfl (lv_room (Nat.le_of_ble_eq_true rfl)) dX2_gave_17 ⟨Nat.le_of_ble_eq_true rfl, Nat.le_of_ble_eq_true rfl⟩) hP hD hS hA [1, 2] [0] (wr := [(h0, .inr (2, [.long pv.1, .long pv.2]))]) rfl rfl (by decide) (by decide) [0, 1, 2] (res := fun _ => [(h0, .inr (2, [.long pv.1, .long pv.2])), (r0, .inr (5, [.ref r1])), (r1, .inl (cJ, nn, .inr (.inl (fv))))]) (fun _ => rfl) (by decide) (fun r_2 _ H locs hu hP hD hS => ?_)
    have hP : va_P (dC, dI) vwCl [(h0, .inr (2, [.long pv.1, .long pv.2])), (r0, .inr (5, [.ref r1])), (r1, .inl (cJ, nn, .inr (.inl (fv))))] H := hP
    have hD : va_D A [(h0, .inr (2, [.long pv.1, .long pv.2])), (r0, .inr (5, [.ref r1])), (r1, .inl (cJ, nn, .inr (.inl (fv))))] := hD
    subst hu
    refine lv_aload_n hx hb dX2_gave_20 rfl (lv_at hl 0 rfl) ?_
    refine va_get (D := (dC, dI)) (ci := 2) (v := .long pv.2) (C := RX2) (T := TX2) (N := 2) hx hb hts iX2 hown hK hP 0 rfl rfl 1 (by decide) f15 (fun _ h9 => h9) rfl dX2_gave_21 ?_
    refine W.lcmp hx hb dX2_gave_24 ?_
    refine lv_if_ne (tgt := 32) hx hb dX2_gave_25 (by decide) (fun c25 => ?_) (fun c25 => ?_)
    ·
      rw [q_lceq] at c25
      refine lv_iconst (v := nI 0) hx hb dX2_gave_32 (by decide) ?_
      exact W.zret (v := nI 0) hx hb hr (by decide) (fun t ht hW => ⟨⟨nI 0, (), rfl, bI_f (fun q => c25 q.2), by rw [ht]; exact hP, va_K.moved hW.alike hK, hD⟩, hS.F ht⟩) hS.2.2 dX2_gave_33
    ·
      rw [q_lceq] at c25
      refine lv_iconst (v := nI 1) hx hb dX2_gave_28 (by decide) ?_
      refine lv_goto (tgt := 33) hx hb dX2_gave_29 (by decide) ?_
      exact W.zret (v := nI 1) hx hb hr (by decide) (fun t ht hW => ⟨⟨nI 1, (), rfl, bI_t ⟨c11, c25⟩, by rw [ht]; exact hP, va_K.moved hW.alike hK, hD⟩, hS.F ht⟩) hS.2.2 dX2_gave_33
end
section
set_option maxHeartbeats 4000000 in
set_option maxRecDepth 100000 in
theorem c_Keys_renew (l : Launch) (dC : Nat → ClassId) (dI : Nat → Nat → Nat) (cJ cI : ClassId) (k0 : Nat) (w1 w2 ov x1 x2 xo : Int64) (hi xh : Int32) (sz : Nat) : Met l yX3_renew wsX3_renew ({ frames := 0, cells := 0, slots := 0, locals := 0 }) (va_Pc [.ref k0, .long x1, .long x2, .long xo, .int xh] (st_B (dC, dI) vwCl [(cJ, .long), (cI, .int)] [(k0, .inr (3, [.long w1, .long w2, .long ov, .int hi]))] sz)) (va_Qv (fun _ : Unit => True) (st_E (dC, dI) vwCl [(cJ, .long), (cI, .int)] (va_A [(k0, .inr (3, [.long w1, .long w2, .long ov, .int hi]))] sz) (fun _ => [(k0, .inr (3, [.long x1, .long x2, .long xo, .int xh]))])) (va_A [(k0, .inr (3, [.long w1, .long w2, .long ov, .int hi]))] sz)) 0 0 (va_A [(k0, .inr (3, [.long w1, .long w2, .long ov, .int hi]))] sz) := by
  refine Met.ofW (cc := cX3_renew) (maxL := 8) (ret := none) (by decide) rfl ?_
  intro p e s m args below meth c s₁ B hml hv
  obtain ⟨rfl, hsz, hP, hK, hD0⟩ := hv
  have hx := B.exec
  have hb := B.bytes
  have hr := B.returns
  have hts := atoms_spec (ws := wsX3_renew) B.pre
  have hown : s.vm.findClass RX3 = some m.cls := findClass_of_methodNamed B.named
  have hlocks := B.notSynchronized
  subst hsz
  have hD := hD0.self (sz := s.heap.size)
  generalize hAe : va_A [(k0, .inr (3, [.long w1, .long w2, .long ov, .int hi]))] s.heap.size = A at hD ⊢
  have hA : ∀ q : Nat, s.heap.size ≤ q → A q := fun q h => by rw [← hAe]; exact Or.inr h
  have hS : va_S A s.heap s.heap [] := va_S.rf
  have hP : va_P (dC, dI) vwCl [(k0, .inr (3, [.long w1, .long w2, .long ov, .int hi]))] s.heap := hP
  have hl := lv_entry ([.ref k0, .long x1, .long x2, .long xo, .int xh]) (n := 8) (Nat.le_of_ble_eq_true rfl)
  rw [lg_entry_eq]
  generalize (lg_sl ([.ref k0, .long x1, .long x2, .long xo, .int xh]) ++ List.replicate (8 - (lg_sl ([.ref k0, .long x1, .long x2, .long xo, .int xh])).length) Slot.unset).toArray = ls at hl ⊢
  have iX3 : ∀ w ∈ wsX30, w ∈ wsX3_renew := by decide +kernel
  have f15 := hts (.fieldLink RX3 15 "LeafSigner$Keys" "one" "J") (by decide +kernel)
  have f19 := hts (.fieldLink RX3 19 "LeafSigner$Keys" "two" "J") (by decide +kernel)
  have f22 := hts (.fieldLink RX3 22 "LeafSigner$Keys" "open" "J") (by decide +kernel)
  have f9 := hts (.fieldLink RX3 9 "LeafSigner$Keys" "height" "I") (by decide +kernel)
  have hl : lv_has ls 8 [(0, .ref k0), (1, .long x1), (3, .long x2), (5, .long xo), (7, .int xh)] := hl
  refine lv_aload_n hx hb dX3_renew_0 rfl (lv_at hl 0 rfl) ?_
  refine lv_lload_n hx hb dX3_renew_1 rfl (lv_at hl 1 rfl) ?_
  refine va_put (D := (dC, dI)) (ci := 3) (v := .long x1) (ty := .long) (C := RX3) (T := TX3) (N := 4) hx hb hts iX3 tyX3 tyX3_ok nmX3 hown hK hP hD hS 0 rfl rfl 0 (by decide) f15 (fun _ h9 => h9) rfl (by decide +kernel) rfl rfl (Nat.le_of_ble_eq_true rfl) dX3_renew_2 (fun H locs hP hD hS => ?_)
  have hP : va_P (dC, dI) vwCl [(k0, .inr (3, [.long x1, .long w2, .long ov, .int hi]))] H := hP
  have hD : va_D A [(k0, .inr (3, [.long x1, .long w2, .long ov, .int hi]))] := hD
  refine lv_aload_n hx hb dX3_renew_5 rfl (lv_at hl 0 rfl) ?_
  refine lv_lload_n hx hb dX3_renew_6 rfl (lv_at hl 2 rfl) ?_
  refine va_put (D := (dC, dI)) (ci := 3) (v := .long x2) (ty := .long) (C := RX3) (T := TX3) (N := 4) hx hb hts iX3 tyX3 tyX3_ok nmX3 hown hK hP hD hS 0 rfl rfl 1 (by decide) f19 (fun _ h9 => h9) rfl (by decide +kernel) rfl rfl (Nat.le_of_ble_eq_true rfl) dX3_renew_7 (fun H locs hP hD hS => ?_)
  have hP : va_P (dC, dI) vwCl [(k0, .inr (3, [.long x1, .long x2, .long ov, .int hi]))] H := hP
  have hD : va_D A [(k0, .inr (3, [.long x1, .long x2, .long ov, .int hi]))] := hD
  refine lv_aload_n hx hb dX3_renew_10 rfl (lv_at hl 0 rfl) ?_
  refine lv_lload hx hb dX3_renew_11 (lv_at hl 3 rfl) ?_
  refine va_put (D := (dC, dI)) (ci := 3) (v := .long xo) (ty := .long) (C := RX3) (T := TX3) (N := 4) hx hb hts iX3 tyX3 tyX3_ok nmX3 hown hK hP hD hS 0 rfl rfl 2 (by decide) f22 (fun _ h9 => h9) rfl (by decide +kernel) rfl rfl (Nat.le_of_ble_eq_true rfl) dX3_renew_13 (fun H locs hP hD hS => ?_)
  have hP : va_P (dC, dI) vwCl [(k0, .inr (3, [.long x1, .long x2, .long xo, .int hi]))] H := hP
  have hD : va_D A [(k0, .inr (3, [.long x1, .long x2, .long xo, .int hi]))] := hD
  refine lv_aload_n hx hb dX3_renew_16 rfl (lv_at hl 0 rfl) ?_
  refine lv_iload hx hb dX3_renew_17 (lv_at hl 4 rfl) ?_
  refine va_put (D := (dC, dI)) (ci := 3) (v := .int xh) (ty := .int) (C := RX3) (T := TX3) (N := 4) hx hb hts iX3 tyX3 tyX3_ok nmX3 hown hK hP hD hS 0 rfl rfl 3 (by decide) f9 (fun _ h9 => h9) rfl (by decide +kernel) rfl rfl (Nat.le_of_ble_eq_true rfl) dX3_renew_19 (fun H locs hP hD hS => ?_)
  have hP : va_P (dC, dI) vwCl [(k0, .inr (3, [.long x1, .long x2, .long xo, .int xh]))] H := hP
  have hD : va_D A [(k0, .inr (3, [.long x1, .long x2, .long xo, .int xh]))] := hD
  exact W.vret hx hb hr (fun t ht hW => ⟨⟨(), rfl, trivial, by rw [ht]; exact hP, va_K.moved hW.alike hK, hD⟩, hS.F ht⟩) hS.2.2 dX3_renew_22

set_option maxHeartbeats 4000000 in
set_option maxRecDepth 100000 in
theorem c_Keys_leaves (l : Launch) (dC : Nat → ClassId) (dI : Nat → Nat → Nat) (cJ cI : ClassId) (k0 : Nat) (w1 w2 ov : Int64) (hh : Nat) (hh4 : hh ≤ 4) (sz : Nat) : Met l yX3_leaves wsX3_leaves ({ frames := 0, cells := 0, slots := 0, locals := 0 }) (va_Pc [.ref k0] (st_B (dC, dI) vwCl [(cJ, .long), (cI, .int)] [(k0, .inr (3, [.long w1, .long w2, .long ov, .int (nI hh)]))] sz)) (va_Qi (fun (r : Int32) (_ : Unit) => r = nI (2 ^ hh)) (st_E (dC, dI) vwCl [(cJ, .long), (cI, .int)] (va_A [(k0, .inr (3, [.long w1, .long w2, .long ov, .int (nI hh)]))] sz) (fun _ => [(k0, .inr (3, [.long w1, .long w2, .long ov, .int (nI hh)]))])) (va_A [(k0, .inr (3, [.long w1, .long w2, .long ov, .int (nI hh)]))] sz)) 0 0 (va_A [(k0, .inr (3, [.long w1, .long w2, .long ov, .int (nI hh)]))] sz) := by
  refine Met.ofW (cc := cX3_leaves) (maxL := 1) (ret := (some .int)) (by decide) rfl ?_
  intro p e s m args below meth c s₁ B hml hv
  obtain ⟨rfl, hsz, hP, hK, hD0⟩ := hv
  have hx := B.exec
  have hb := B.bytes
  have hr := B.returns
  have hts := atoms_spec (ws := wsX3_leaves) B.pre
  have hown : s.vm.findClass RX3 = some m.cls := findClass_of_methodNamed B.named
  have hlocks := B.notSynchronized
  subst hsz
  have hD := hD0.self (sz := s.heap.size)
  generalize hAe : va_A [(k0, .inr (3, [.long w1, .long w2, .long ov, .int (nI hh)]))] s.heap.size = A at hD ⊢
  have hA : ∀ q : Nat, s.heap.size ≤ q → A q := fun q h => by rw [← hAe]; exact Or.inr h
  have hS : va_S A s.heap s.heap [] := va_S.rf
  have hP : va_P (dC, dI) vwCl [(k0, .inr (3, [.long w1, .long w2, .long ov, .int (nI hh)]))] s.heap := hP
  have hl := lv_entry ([.ref k0]) (n := 1) (Nat.le_of_ble_eq_true rfl)
  rw [lg_entry_eq]
  generalize (lg_sl ([.ref k0]) ++ List.replicate (1 - (lg_sl ([.ref k0])).length) Slot.unset).toArray = ls at hl ⊢
  have iX3 : ∀ w ∈ wsX30, w ∈ wsX3_leaves := by decide +kernel
  have f9 := hts (.fieldLink RX3 9 "LeafSigner$Keys" "height" "I") (by decide +kernel)
  have hl : lv_has ls 1 [(0, .ref k0)] := hl
  refine lv_iconst (v := nI 1) hx hb dX3_leaves_0 (by decide) ?_
  refine lv_aload_n hx hb dX3_leaves_1 rfl (lv_at hl 0 rfl) ?_
  refine va_get (D := (dC, dI)) (ci := 3) (v := .int (nI hh)) (C := RX3) (T := TX3) (N := 4) hx hb hts iX3 hown hK hP 0 rfl rfl 3 (by decide) f9 (fun _ h9 => h9) rfl dX3_leaves_2 ?_
  refine lv_ishl hx hb dX3_leaves_5 ?_
  refine st_i (y := nI (2 ^ hh)) (st_shl1 (by omega)) ?_
  exact W.iret (v := nI (2 ^ hh)) hx hb hr (fun t ht hW => ⟨⟨nI (2 ^ hh), (), rfl, rfl, by rw [ht]; exact hP, va_K.moved hW.alike hK, hD⟩, hS.F ht⟩) hS.2.2 dX3_leaves_6

set_option maxHeartbeats 4000000 in
set_option maxRecDepth 100000 in
theorem c_Keys_hasLeaf (l : Launch) (dC : Nat → ClassId) (dI : Nat → Nat → Nat) (cJ cI : ClassId) (k0 : Nat) (w1 w2 ov : Int64) (hh : Nat) (xl : Int32) (hh4 : hh ≤ 4) (sz : Nat) : Met l yX3_hasLeaf wsX3_hasLeaf ({ frames := 1, cells := 0, slots := 0, locals := 20 }) (va_Pc [.ref k0, .int xl] (st_B (dC, dI) vwCl [(cJ, .long), (cI, .int)] [(k0, .inr (3, [.long w1, .long w2, .long ov, .int (nI hh)]))] sz)) (va_Qi (fun (r : Int32) (_ : Unit) => r = bI (decide (¬ xl < 0 ∧ ¬ nI (2 ^ hh) ≤ xl))) (st_E (dC, dI) vwCl [(cJ, .long), (cI, .int)] (va_A [(k0, .inr (3, [.long w1, .long w2, .long ov, .int (nI hh)]))] sz) (fun _ => [(k0, .inr (3, [.long w1, .long w2, .long ov, .int (nI hh)]))])) (va_A [(k0, .inr (3, [.long w1, .long w2, .long ov, .int (nI hh)]))] sz)) 0 0 (va_A [(k0, .inr (3, [.long w1, .long w2, .long ov, .int (nI hh)]))] sz) := by
  refine Met.ofW (cc := cX3_hasLeaf) (maxL := 2) (ret := (some .boolean)) (by decide) rfl ?_
  intro p e s m args below meth c s₁ B hml hv
  obtain ⟨rfl, hsz, hP, hK, hD0⟩ := hv
  have hx := B.exec
  have hb := B.bytes
  have hr := B.returns
  have hts := atoms_spec (ws := wsX3_hasLeaf) B.pre
  have hown : s.vm.findClass RX3 = some m.cls := findClass_of_methodNamed B.named
  have hlocks := B.notSynchronized
  subst hsz
  have hD := hD0.self (sz := s.heap.size)
  generalize hAe : va_A [(k0, .inr (3, [.long w1, .long w2, .long ov, .int (nI hh)]))] s.heap.size = A at hD ⊢
  have hA : ∀ q : Nat, s.heap.size ≤ q → A q := fun q h => by rw [← hAe]; exact Or.inr h
  have hS : va_S A s.heap s.heap [] := va_S.rf
  have hP : va_P (dC, dI) vwCl [(k0, .inr (3, [.long w1, .long w2, .long ov, .int (nI hh)]))] s.heap := hP
  have hl := lv_entry ([.ref k0, .int xl]) (n := 2) (Nat.le_of_ble_eq_true rfl)
  rw [lg_entry_eq]
  generalize (lg_sl ([.ref k0, .int xl]) ++ List.replicate (2 - (lg_sl ([.ref k0, .int xl])).length) Slot.unset).toArray = ls at hl ⊢
  have hl : lv_has ls 2 [(0, .ref k0), (1, .int xl)] := hl
  refine lv_iload_n hx hb dX3_hasLeaf_0 rfl (lv_at hl 1 rfl) ?_
  refine lv_if_lt (tgt := 16) hx hb dX3_hasLeaf_1 (by decide) (fun c1 => ?_) (fun c1 => ?_)
  ·
    refine lv_iconst (v := nI 0) hx hb dX3_hasLeaf_16 (by decide) ?_
    exact W.zret (v := nI 0) hx hb hr (by decide) (fun t ht hW => ⟨⟨nI 0, (), rfl, bI_f (fun q => q.1 c1), by rw [ht]; exact hP, va_K.moved hW.alike hK, hD⟩, hS.F ht⟩) hS.2.2 dX3_hasLeaf_17
  ·
    refine lv_iload_n hx hb dX3_hasLeaf_4 rfl (lv_at hl 1 rfl) ?_
    refine lv_aload_n hx hb dX3_hasLeaf_5 rfl (lv_at hl 0 rfl) ?_
    refine st_calli (va_runV (As := []) (rest := [.int xl]) ⟨hx, hb, hml, hown, hts⟩ (c_Keys_leaves l dC dI cJ cI k0 w1 w2 ov hh (by omega) s.heap.size) (cwV 0 hts gX3_hasLeaf_X3_leaves rfl rfl rfl (by decide +kernel) ⟨Nat.le_of_ble_eq_true rfl, Nat.le_of_ble_eq_true rfl⟩) (st_preV hK hP hD [0] rfl rfl (ci := 3) (q0 := 0) rfl rfl) rfl rfl hl.1 rfl (lv_room (Nat.le_of_ble_eq_true rfl)) dX3_hasLeaf_6 ⟨Nat.le_of_ble_eq_true rfl, Nat.le_of_ble_eq_true rfl⟩) hP hD hS hA [0] [] (wr := []) rfl rfl (by decide) (by decide) [0] (res := fun _ => [(k0, .inr (3, [.long w1, .long w2, .long ov, .int (nI hh)]))]) (fun _ => rfl) (by decide) (fun r_1 _ H locs hu hP hD hS => ?_)
    have hP : va_P (dC, dI) vwCl [(k0, .inr (3, [.long w1, .long w2, .long ov, .int (nI hh)]))] H := hP
    have hD : va_D A [(k0, .inr (3, [.long w1, .long w2, .long ov, .int (nI hh)]))] := hD
    subst hu
    refine lv_icmp_ge (tgt := 16) hx hb dX3_hasLeaf_9 (by decide) (fun c9 => ?_) (fun c9 => ?_)
    ·
      refine lv_iconst (v := nI 0) hx hb dX3_hasLeaf_16 (by decide) ?_
      exact W.zret (v := nI 0) hx hb hr (by decide) (fun t ht hW => ⟨⟨nI 0, (), rfl, bI_f (fun q => q.2 c9), by rw [ht]; exact hP, va_K.moved hW.alike hK, hD⟩, hS.F ht⟩) hS.2.2 dX3_hasLeaf_17
    ·
      refine lv_iconst (v := nI 1) hx hb dX3_hasLeaf_12 (by decide) ?_
      refine lv_goto (tgt := 17) hx hb dX3_hasLeaf_13 (by decide) ?_
      exact W.zret (v := nI 1) hx hb hr (by decide) (fun t ht hW => ⟨⟨nI 1, (), rfl, bI_t ⟨c1, c9⟩, by rw [ht]; exact hP, va_K.moved hW.alike hK, hD⟩, hS.F ht⟩) hS.2.2 dX3_hasLeaf_17

set_option maxHeartbeats 4000000 in
set_option maxRecDepth 100000 in
theorem c_Message_isFull (l : Launch) (dC : Nat → ClassId) (dI : Nat → Nat → Nat) (cJ cI : ClassId) (m0 m1 : Nat) (ln : Nat) (mv : Nat → Int64) (hln : ln ≤ 20) (sz : Nat) : Met l yX4_isFull wsX4_isFull ({ frames := 0, cells := 0, slots := 0, locals := 0 }) (va_Pc [.ref m0] (st_B (dC, dI) vwCl [(cJ, .long), (cI, .int)] [(m0, .inr (4, [.ref m1, .int (nI ln)])), (m1, .inl (cJ, 20, .inr (.inl (mv))))] sz)) (va_Qi (fun (r : Int32) (_ : Unit) => r = bI (decide (20 ≤ ln))) (st_E (dC, dI) vwCl [(cJ, .long), (cI, .int)] (va_A [(m0, .inr (4, [.ref m1, .int (nI ln)])), (m1, .inl (cJ, 20, .inr (.inl (mv))))] sz) (fun _ => [(m0, .inr (4, [.ref m1, .int (nI ln)])), (m1, .inl (cJ, 20, .inr (.inl (mv))))])) (va_A [(m0, .inr (4, [.ref m1, .int (nI ln)])), (m1, .inl (cJ, 20, .inr (.inl (mv))))] sz)) 0 0 (va_A [(m0, .inr (4, [.ref m1, .int (nI ln)])), (m1, .inl (cJ, 20, .inr (.inl (mv))))] sz) := by
  refine Met.ofW (cc := cX4_isFull) (maxL := 1) (ret := (some .boolean)) (by decide) rfl ?_
  intro p e s m args below meth c s₁ B hml hv
  obtain ⟨rfl, hsz, hP, hK, hD0⟩ := hv
  have hx := B.exec
  have hb := B.bytes
  have hr := B.returns
  have hts := atoms_spec (ws := wsX4_isFull) B.pre
  have hown : s.vm.findClass RX4 = some m.cls := findClass_of_methodNamed B.named
  have hlocks := B.notSynchronized
  subst hsz
  have hD := hD0.self (sz := s.heap.size)
  generalize hAe : va_A [(m0, .inr (4, [.ref m1, .int (nI ln)])), (m1, .inl (cJ, 20, .inr (.inl (mv))))] s.heap.size = A at hD ⊢
  have hA : ∀ q : Nat, s.heap.size ≤ q → A q := fun q h => by rw [← hAe]; exact Or.inr h
  have hS : va_S A s.heap s.heap [] := va_S.rf
  have hP : va_P (dC, dI) vwCl [(m0, .inr (4, [.ref m1, .int (nI ln)])), (m1, .inl (cJ, 20, .inr (.inl (mv))))] s.heap := hP
  have hl := lv_entry ([.ref m0]) (n := 1) (Nat.le_of_ble_eq_true rfl)
  rw [lg_entry_eq]
  generalize (lg_sl ([.ref m0]) ++ List.replicate (1 - (lg_sl ([.ref m0])).length) Slot.unset).toArray = ls at hl ⊢
  have iX4 : ∀ w ∈ wsX40, w ∈ wsX4_isFull := by decide +kernel
  have f13 := hts (.fieldLink RX4 13 "LeafSigner$Message" "size" "I") (by decide +kernel)
  have hl : lv_has ls 1 [(0, .ref m0)] := hl
  refine lv_aload_n hx hb dX4_isFull_0 rfl (lv_at hl 0 rfl) ?_
  refine va_get (D := (dC, dI)) (ci := 4) (v := .int (nI ln)) (C := RX4) (T := TX4) (N := 2) hx hb hts iX4 hown hK hP 0 rfl rfl 1 (by decide) f13 (fun _ h9 => h9) rfl dX4_isFull_1 ?_
  refine lv_bipush (v := nI 20) hx hb dX4_isFull_4 (by decide) ?_
  refine lv_icmp_lt (tgt := 13) hx hb dX4_isFull_6 (by decide) (fun c6 => ?_) (fun c6 => ?_)
  ·
    rw [q_lt (by omega) (by omega)] at c6
    refine lv_iconst (v := nI 0) hx hb dX4_isFull_13 (by decide) ?_
    exact W.zret (v := nI 0) hx hb hr (by decide) (fun t ht hW => ⟨⟨nI 0, (), rfl, bI_f (by omega), by rw [ht]; exact hP, va_K.moved hW.alike hK, hD⟩, hS.F ht⟩) hS.2.2 dX4_isFull_14
  ·
    rw [q_lt (by omega) (by omega)] at c6
    refine lv_iconst (v := nI 1) hx hb dX4_isFull_9 (by decide) ?_
    refine lv_goto (tgt := 14) hx hb dX4_isFull_10 (by decide) ?_
    exact W.zret (v := nI 1) hx hb hr (by decide) (fun t ht hW => ⟨⟨nI 1, (), rfl, bI_t (by omega), by rw [ht]; exact hP, va_K.moved hW.alike hK, hD⟩, hS.F ht⟩) hS.2.2 dX4_isFull_14

set_option maxHeartbeats 4000000 in
set_option maxRecDepth 100000 in
theorem c_Message_append (l : Launch) (dC : Nat → ClassId) (dI : Nat → Nat → Nat) (cJ cI : ClassId) (m0 m1 : Nat) (ln : Nat) (mv : Nat → Int64) (xv : Int64) (hln : ln < 20) (sz : Nat) : Met l yX4_append wsX4_append ({ frames := 0, cells := 0, slots := 0, locals := 0 }) (va_Pc [.ref m0, .long xv] (st_B (dC, dI) vwCl [(cJ, .long), (cI, .int)] [(m0, .inr (4, [.ref m1, .int (nI ln)])), (m1, .inl (cJ, 20, .inr (.inl (mv))))] sz)) (va_Qv (fun _ : Unit => True) (st_E (dC, dI) vwCl [(cJ, .long), (cI, .int)] (va_A [(m0, .inr (4, [.ref m1, .int (nI ln)])), (m1, .inl (cJ, 20, .inr (.inl (mv))))] sz) (fun _ => [(m0, .inr (4, [.ref m1, .int (nI (ln + 1))])), (m1, .inl (cJ, 20, .inr (.inl (vp_updL mv ln xv))))])) (va_A [(m0, .inr (4, [.ref m1, .int (nI ln)])), (m1, .inl (cJ, 20, .inr (.inl (mv))))] sz)) 0 0 (va_A [(m0, .inr (4, [.ref m1, .int (nI ln)])), (m1, .inl (cJ, 20, .inr (.inl (mv))))] sz) := by
  refine Met.ofW (cc := cX4_append) (maxL := 3) (ret := none) (by decide) rfl ?_
  intro p e s m args below meth c s₁ B hml hv
  obtain ⟨rfl, hsz, hP, hK, hD0⟩ := hv
  have hx := B.exec
  have hb := B.bytes
  have hr := B.returns
  have hts := atoms_spec (ws := wsX4_append) B.pre
  have hown : s.vm.findClass RX4 = some m.cls := findClass_of_methodNamed B.named
  have hlocks := B.notSynchronized
  subst hsz
  have hD := hD0.self (sz := s.heap.size)
  generalize hAe : va_A [(m0, .inr (4, [.ref m1, .int (nI ln)])), (m1, .inl (cJ, 20, .inr (.inl (mv))))] s.heap.size = A at hD ⊢
  have hA : ∀ q : Nat, s.heap.size ≤ q → A q := fun q h => by rw [← hAe]; exact Or.inr h
  have hS : va_S A s.heap s.heap [] := va_S.rf
  have hP : va_P (dC, dI) vwCl [(m0, .inr (4, [.ref m1, .int (nI ln)])), (m1, .inl (cJ, 20, .inr (.inl (mv))))] s.heap := hP
  have hl := lv_entry ([.ref m0, .long xv]) (n := 3) (Nat.le_of_ble_eq_true rfl)
  rw [lg_entry_eq]
  generalize (lg_sl ([.ref m0, .long xv]) ++ List.replicate (3 - (lg_sl ([.ref m0, .long xv])).length) Slot.unset).toArray = ls at hl ⊢
  have iX4 : ∀ w ∈ wsX40, w ∈ wsX4_append := by decide +kernel
  have f9 := hts (.fieldLink RX4 9 "LeafSigner$Message" "longs" "[J") (by decide +kernel)
  have f13 := hts (.fieldLink RX4 13 "LeafSigner$Message" "size" "I") (by decide +kernel)
  have hl : lv_has ls 3 [(0, .ref m0), (1, .long xv)] := hl
  refine lv_aload_n hx hb dX4_append_0 rfl (lv_at hl 0 rfl) ?_
  refine va_get (D := (dC, dI)) (ci := 4) (v := .ref m1) (C := RX4) (T := TX4) (N := 2) hx hb hts iX4 hown hK hP 0 rfl rfl 0 (by decide) f9 (fun _ h9 => h9) rfl dX4_append_1 ?_
  refine lv_aload_n hx hb dX4_append_4 rfl (lv_at hl 0 rfl) ?_
  refine va_get (D := (dC, dI)) (ci := 4) (v := .int (nI ln)) (C := RX4) (T := TX4) (N := 2) hx hb hts iX4 hown hK hP 0 rfl rfl 1 (by decide) f13 (fun _ h9 => h9) rfl dX4_append_5 ?_
  refine lv_lload_n hx hb dX4_append_8 rfl (lv_at hl 1 rfl) ?_
  refine st_last hx hb hK hP hD hS 1 0 rfl rfl ln rfl (by omega) (by omega) dX4_append_9 (fun H locs hP hD hS => ?_)
  have hP : va_P (dC, dI) vwCl [(m0, .inr (4, [.ref m1, .int (nI ln)])), (m1, .inl (cJ, 20, .inr (.inl (vp_updL mv ln xv))))] H := hP
  have hD : va_D A [(m0, .inr (4, [.ref m1, .int (nI ln)])), (m1, .inl (cJ, 20, .inr (.inl (vp_updL mv ln xv))))] := hD
  refine lv_aload_n hx hb dX4_append_10 rfl (lv_at hl 0 rfl) ?_
  refine lv_dup hx hb dX4_append_11 rfl ?_
  refine va_get (D := (dC, dI)) (ci := 4) (v := .int (nI ln)) (C := RX4) (T := TX4) (N := 2) hx hb hts iX4 hown hK hP 0 rfl rfl 1 (by decide) f13 (fun _ h9 => h9) rfl dX4_append_12 ?_
  refine lv_iconst (v := nI 1) hx hb dX4_append_15 (by decide) ?_
  refine lv_iadd hx hb dX4_append_16 ?_
  refine st_i (y := nI (ln + 1)) (nI_add ln 1) ?_
  refine va_put (D := (dC, dI)) (ci := 4) (v := .int (nI (ln + 1))) (ty := .int) (C := RX4) (T := TX4) (N := 2) hx hb hts iX4 tyX4 tyX4_ok nmX4 hown hK hP hD hS 0 rfl rfl 1 (by decide) f13 (fun _ h9 => h9) rfl (by decide +kernel) rfl rfl (Nat.le_of_ble_eq_true rfl) dX4_append_17 (fun H locs hP hD hS => ?_)
  have hP : va_P (dC, dI) vwCl [(m0, .inr (4, [.ref m1, .int (nI (ln + 1))])), (m1, .inl (cJ, 20, .inr (.inl (vp_updL mv ln xv))))] H := hP
  have hD : va_D A [(m0, .inr (4, [.ref m1, .int (nI (ln + 1))])), (m1, .inl (cJ, 20, .inr (.inl (vp_updL mv ln xv))))] := hD
  exact W.vret hx hb hr (fun t ht hW => ⟨⟨(), rfl, trivial, by rw [ht]; exact hP, va_K.moved hW.alike hK, hD⟩, hS.F ht⟩) hS.2.2 dX4_append_20

set_option maxHeartbeats 4000000 in
set_option maxRecDepth 100000 in
theorem c_Message_clear (l : Launch) (dC : Nat → ClassId) (dI : Nat → Nat → Nat) (cJ cI : ClassId) (m0 m1 : Nat) (ln : Nat) (mv : Nat → Int64) (sz : Nat) : Met l yX4_clear wsX4_clear ({ frames := 0, cells := 0, slots := 0, locals := 0 }) (va_Pc [.ref m0] (st_B (dC, dI) vwCl [(cJ, .long), (cI, .int)] [(m0, .inr (4, [.ref m1, .int (nI ln)])), (m1, .inl (cJ, 20, .inr (.inl (mv))))] sz)) (va_Qv (fun _ : Unit => True) (st_E (dC, dI) vwCl [(cJ, .long), (cI, .int)] (va_A [(m0, .inr (4, [.ref m1, .int (nI ln)])), (m1, .inl (cJ, 20, .inr (.inl (mv))))] sz) (fun _ => [(m0, .inr (4, [.ref m1, .int (nI 0)])), (m1, .inl (cJ, 20, .inr (.inl (mv))))])) (va_A [(m0, .inr (4, [.ref m1, .int (nI ln)])), (m1, .inl (cJ, 20, .inr (.inl (mv))))] sz)) 0 0 (va_A [(m0, .inr (4, [.ref m1, .int (nI ln)])), (m1, .inl (cJ, 20, .inr (.inl (mv))))] sz) := by
  refine Met.ofW (cc := cX4_clear) (maxL := 1) (ret := none) (by decide) rfl ?_
  intro p e s m args below meth c s₁ B hml hv
  obtain ⟨rfl, hsz, hP, hK, hD0⟩ := hv
  have hx := B.exec
  have hb := B.bytes
  have hr := B.returns
  have hts := atoms_spec (ws := wsX4_clear) B.pre
  have hown : s.vm.findClass RX4 = some m.cls := findClass_of_methodNamed B.named
  have hlocks := B.notSynchronized
  subst hsz
  have hD := hD0.self (sz := s.heap.size)
  generalize hAe : va_A [(m0, .inr (4, [.ref m1, .int (nI ln)])), (m1, .inl (cJ, 20, .inr (.inl (mv))))] s.heap.size = A at hD ⊢
  have hA : ∀ q : Nat, s.heap.size ≤ q → A q := fun q h => by rw [← hAe]; exact Or.inr h
  have hS : va_S A s.heap s.heap [] := va_S.rf
  have hP : va_P (dC, dI) vwCl [(m0, .inr (4, [.ref m1, .int (nI ln)])), (m1, .inl (cJ, 20, .inr (.inl (mv))))] s.heap := hP
  have hl := lv_entry ([.ref m0]) (n := 1) (Nat.le_of_ble_eq_true rfl)
  rw [lg_entry_eq]
  generalize (lg_sl ([.ref m0]) ++ List.replicate (1 - (lg_sl ([.ref m0])).length) Slot.unset).toArray = ls at hl ⊢
  have iX4 : ∀ w ∈ wsX40, w ∈ wsX4_clear := by decide +kernel
  have f13 := hts (.fieldLink RX4 13 "LeafSigner$Message" "size" "I") (by decide +kernel)
  have hl : lv_has ls 1 [(0, .ref m0)] := hl
  refine lv_aload_n hx hb dX4_clear_0 rfl (lv_at hl 0 rfl) ?_
  refine lv_iconst (v := nI 0) hx hb dX4_clear_1 (by decide) ?_
  refine va_put (D := (dC, dI)) (ci := 4) (v := .int (nI 0)) (ty := .int) (C := RX4) (T := TX4) (N := 2) hx hb hts iX4 tyX4 tyX4_ok nmX4 hown hK hP hD hS 0 rfl rfl 1 (by decide) f13 (fun _ h9 => h9) rfl (by decide +kernel) rfl rfl (Nat.le_of_ble_eq_true rfl) dX4_clear_2 (fun H locs hP hD hS => ?_)
  have hP : va_P (dC, dI) vwCl [(m0, .inr (4, [.ref m1, .int (nI 0)])), (m1, .inl (cJ, 20, .inr (.inl (mv))))] H := hP
  have hD : va_D A [(m0, .inr (4, [.ref m1, .int (nI 0)])), (m1, .inl (cJ, 20, .inr (.inl (mv))))] := hD
  exact W.vret hx hb hr (fun t ht hW => ⟨⟨(), rfl, trivial, by rw [ht]; exact hP, va_K.moved hW.alike hK, hD⟩, hS.F ht⟩) hS.2.2 dX4_clear_5

set_option maxHeartbeats 4000000 in
set_option maxRecDepth 100000 in
theorem c_Signature_open (l : Launch) (dC : Nat → ClassId) (dI : Nat → Nat → Nat) (cJ cI : ClassId) (s0 p0 : Nat) (xl xn yl yn : Int32) (sz : Nat) : Met l yX6_open wsX6_open ({ frames := 0, cells := 0, slots := 0, locals := 0 }) (va_Pc [.ref s0, .int yl, .int yn] (st_B (dC, dI) vwCl [(cJ, .long), (cI, .int)] [(s0, .inr (6, [.ref p0, .int xl, .int xn]))] sz)) (va_Qv (fun _ : Unit => True) (st_E (dC, dI) vwCl [(cJ, .long), (cI, .int)] (va_A [(s0, .inr (6, [.ref p0, .int xl, .int xn]))] sz) (fun _ => [(s0, .inr (6, [.ref p0, .int yl, .int yn]))])) (va_A [(s0, .inr (6, [.ref p0, .int xl, .int xn]))] sz)) 0 0 (va_A [(s0, .inr (6, [.ref p0, .int xl, .int xn]))] sz) := by
  refine Met.ofW (cc := cX6_open) (maxL := 3) (ret := none) (by decide) rfl ?_
  intro p e s m args below meth c s₁ B hml hv
  obtain ⟨rfl, hsz, hP, hK, hD0⟩ := hv
  have hx := B.exec
  have hb := B.bytes
  have hr := B.returns
  have hts := atoms_spec (ws := wsX6_open) B.pre
  have hown : s.vm.findClass RX6 = some m.cls := findClass_of_methodNamed B.named
  have hlocks := B.notSynchronized
  subst hsz
  have hD := hD0.self (sz := s.heap.size)
  generalize hAe : va_A [(s0, .inr (6, [.ref p0, .int xl, .int xn]))] s.heap.size = A at hD ⊢
  have hA : ∀ q : Nat, s.heap.size ≤ q → A q := fun q h => by rw [← hAe]; exact Or.inr h
  have hS : va_S A s.heap s.heap [] := va_S.rf
  have hP : va_P (dC, dI) vwCl [(s0, .inr (6, [.ref p0, .int xl, .int xn]))] s.heap := hP
  have hl := lv_entry ([.ref s0, .int yl, .int yn]) (n := 3) (Nat.le_of_ble_eq_true rfl)
  rw [lg_entry_eq]
  generalize (lg_sl ([.ref s0, .int yl, .int yn]) ++ List.replicate (3 - (lg_sl ([.ref s0, .int yl, .int yn])).length) Slot.unset).toArray = ls at hl ⊢
  have iX6 : ∀ w ∈ wsX60, w ∈ wsX6_open := by decide +kernel
  have f20 := hts (.fieldLink RX6 20 "LeafSigner$Signature" "leaf" "I") (by decide +kernel)
  have f24 := hts (.fieldLink RX6 24 "LeafSigner$Signature" "size" "I") (by decide +kernel)
  have hl : lv_has ls 3 [(0, .ref s0), (1, .int yl), (2, .int yn)] := hl
  refine lv_aload_n hx hb dX6_open_0 rfl (lv_at hl 0 rfl) ?_
  refine lv_iload_n hx hb dX6_open_1 rfl (lv_at hl 1 rfl) ?_
  refine va_put (D := (dC, dI)) (ci := 6) (v := .int yl) (ty := .int) (C := RX6) (T := TX6) (N := 3) hx hb hts iX6 tyX6 tyX6_ok nmX6 hown hK hP hD hS 0 rfl rfl 1 (by decide) f20 (fun _ h9 => h9) rfl (by decide +kernel) rfl rfl (Nat.le_of_ble_eq_true rfl) dX6_open_2 (fun H locs hP hD hS => ?_)
  have hP : va_P (dC, dI) vwCl [(s0, .inr (6, [.ref p0, .int yl, .int xn]))] H := hP
  have hD : va_D A [(s0, .inr (6, [.ref p0, .int yl, .int xn]))] := hD
  refine lv_aload_n hx hb dX6_open_5 rfl (lv_at hl 0 rfl) ?_
  refine lv_iload_n hx hb dX6_open_6 rfl (lv_at hl 2 rfl) ?_
  refine va_put (D := (dC, dI)) (ci := 6) (v := .int yn) (ty := .int) (C := RX6) (T := TX6) (N := 3) hx hb hts iX6 tyX6 tyX6_ok nmX6 hown hK hP hD hS 0 rfl rfl 2 (by decide) f24 (fun _ h9 => h9) rfl (by decide +kernel) rfl rfl (Nat.le_of_ble_eq_true rfl) dX6_open_7 (fun H locs hP hD hS => ?_)
  have hP : va_P (dC, dI) vwCl [(s0, .inr (6, [.ref p0, .int yl, .int yn]))] H := hP
  have hD : va_D A [(s0, .inr (6, [.ref p0, .int yl, .int yn]))] := hD
  exact W.vret hx hb hr (fun t ht hW => ⟨⟨(), rfl, trivial, by rw [ht]; exact hP, va_K.moved hW.alike hK, hD⟩, hS.F ht⟩) hS.2.2 dX6_open_10

set_option maxHeartbeats 4000000 in
set_option maxRecDepth 100000 in
theorem c_Signature_clear (l : Launch) (dC : Nat → ClassId) (dI : Nat → Nat → Nat) (cJ cI : ClassId) (s0 p0 : Nat) (xl xn : Int32) (sz : Nat) : Met l yX6_clear wsX6_clear ({ frames := 0, cells := 0, slots := 0, locals := 0 }) (va_Pc [.ref s0] (st_B (dC, dI) vwCl [(cJ, .long), (cI, .int)] [(s0, .inr (6, [.ref p0, .int xl, .int xn]))] sz)) (va_Qv (fun _ : Unit => True) (st_E (dC, dI) vwCl [(cJ, .long), (cI, .int)] (va_A [(s0, .inr (6, [.ref p0, .int xl, .int xn]))] sz) (fun _ => [(s0, .inr (6, [.ref p0, .int (-1), .int (nI 0)]))])) (va_A [(s0, .inr (6, [.ref p0, .int xl, .int xn]))] sz)) 0 0 (va_A [(s0, .inr (6, [.ref p0, .int xl, .int xn]))] sz) := by
  refine Met.ofW (cc := cX6_clear) (maxL := 1) (ret := none) (by decide) rfl ?_
  intro p e s m args below meth c s₁ B hml hv
  obtain ⟨rfl, hsz, hP, hK, hD0⟩ := hv
  have hx := B.exec
  have hb := B.bytes
  have hr := B.returns
  have hts := atoms_spec (ws := wsX6_clear) B.pre
  have hown : s.vm.findClass RX6 = some m.cls := findClass_of_methodNamed B.named
  have hlocks := B.notSynchronized
  subst hsz
  have hD := hD0.self (sz := s.heap.size)
  generalize hAe : va_A [(s0, .inr (6, [.ref p0, .int xl, .int xn]))] s.heap.size = A at hD ⊢
  have hA : ∀ q : Nat, s.heap.size ≤ q → A q := fun q h => by rw [← hAe]; exact Or.inr h
  have hS : va_S A s.heap s.heap [] := va_S.rf
  have hP : va_P (dC, dI) vwCl [(s0, .inr (6, [.ref p0, .int xl, .int xn]))] s.heap := hP
  have hl := lv_entry ([.ref s0]) (n := 1) (Nat.le_of_ble_eq_true rfl)
  rw [lg_entry_eq]
  generalize (lg_sl ([.ref s0]) ++ List.replicate (1 - (lg_sl ([.ref s0])).length) Slot.unset).toArray = ls at hl ⊢
  have iX6 : ∀ w ∈ wsX60, w ∈ wsX6_clear := by decide +kernel
  have f20 := hts (.fieldLink RX6 20 "LeafSigner$Signature" "leaf" "I") (by decide +kernel)
  have f24 := hts (.fieldLink RX6 24 "LeafSigner$Signature" "size" "I") (by decide +kernel)
  have hl : lv_has ls 1 [(0, .ref s0)] := hl
  refine lv_aload_n hx hb dX6_clear_0 rfl (lv_at hl 0 rfl) ?_
  refine lv_iconst (v := -1) hx hb dX6_clear_1 (by decide) ?_
  refine va_put (D := (dC, dI)) (ci := 6) (v := .int (-1)) (ty := .int) (C := RX6) (T := TX6) (N := 3) hx hb hts iX6 tyX6 tyX6_ok nmX6 hown hK hP hD hS 0 rfl rfl 1 (by decide) f20 (fun _ h9 => h9) rfl (by decide +kernel) rfl rfl (Nat.le_of_ble_eq_true rfl) dX6_clear_2 (fun H locs hP hD hS => ?_)
  have hP : va_P (dC, dI) vwCl [(s0, .inr (6, [.ref p0, .int (-1), .int xn]))] H := hP
  have hD : va_D A [(s0, .inr (6, [.ref p0, .int (-1), .int xn]))] := hD
  refine lv_aload_n hx hb dX6_clear_5 rfl (lv_at hl 0 rfl) ?_
  refine lv_iconst (v := nI 0) hx hb dX6_clear_6 (by decide) ?_
  refine va_put (D := (dC, dI)) (ci := 6) (v := .int (nI 0)) (ty := .int) (C := RX6) (T := TX6) (N := 3) hx hb hts iX6 tyX6 tyX6_ok nmX6 hown hK hP hD hS 0 rfl rfl 2 (by decide) f24 (fun _ h9 => h9) rfl (by decide +kernel) rfl rfl (Nat.le_of_ble_eq_true rfl) dX6_clear_7 (fun H locs hP hD hS => ?_)
  have hP : va_P (dC, dI) vwCl [(s0, .inr (6, [.ref p0, .int (-1), .int (nI 0)]))] H := hP
  have hD : va_D A [(s0, .inr (6, [.ref p0, .int (-1), .int (nI 0)]))] := hD
  exact W.vret hx hb hr (fun t ht hW => ⟨⟨(), rfl, trivial, by rw [ht]; exact hP, va_K.moved hW.alike hK, hD⟩, hS.F ht⟩) hS.2.2 dX6_clear_10

set_option maxHeartbeats 4000000 in
set_option maxRecDepth 100000 in
theorem c_Signature_isThere (l : Launch) (dC : Nat → ClassId) (dI : Nat → Nat → Nat) (cJ cI : ClassId) (s0 p0 : Nat) (xl xn : Int32) (sz : Nat) : Met l yX6_isThere wsX6_isThere ({ frames := 0, cells := 0, slots := 0, locals := 0 }) (va_Pc [.ref s0] (st_B (dC, dI) vwCl [(cJ, .long), (cI, .int)] [(s0, .inr (6, [.ref p0, .int xl, .int xn]))] sz)) (va_Qi (fun (r : Int32) (_ : Unit) => r = bI (decide (¬ xl = -1))) (st_E (dC, dI) vwCl [(cJ, .long), (cI, .int)] (va_A [(s0, .inr (6, [.ref p0, .int xl, .int xn]))] sz) (fun _ => [(s0, .inr (6, [.ref p0, .int xl, .int xn]))])) (va_A [(s0, .inr (6, [.ref p0, .int xl, .int xn]))] sz)) 0 0 (va_A [(s0, .inr (6, [.ref p0, .int xl, .int xn]))] sz) := by
  refine Met.ofW (cc := cX6_isThere) (maxL := 1) (ret := (some .boolean)) (by decide) rfl ?_
  intro p e s m args below meth c s₁ B hml hv
  obtain ⟨rfl, hsz, hP, hK, hD0⟩ := hv
  have hx := B.exec
  have hb := B.bytes
  have hr := B.returns
  have hts := atoms_spec (ws := wsX6_isThere) B.pre
  have hown : s.vm.findClass RX6 = some m.cls := findClass_of_methodNamed B.named
  have hlocks := B.notSynchronized
  subst hsz
  have hD := hD0.self (sz := s.heap.size)
  generalize hAe : va_A [(s0, .inr (6, [.ref p0, .int xl, .int xn]))] s.heap.size = A at hD ⊢
  have hA : ∀ q : Nat, s.heap.size ≤ q → A q := fun q h => by rw [← hAe]; exact Or.inr h
  have hS : va_S A s.heap s.heap [] := va_S.rf
  have hP : va_P (dC, dI) vwCl [(s0, .inr (6, [.ref p0, .int xl, .int xn]))] s.heap := hP
  have hl := lv_entry ([.ref s0]) (n := 1) (Nat.le_of_ble_eq_true rfl)
  rw [lg_entry_eq]
  generalize (lg_sl ([.ref s0]) ++ List.replicate (1 - (lg_sl ([.ref s0])).length) Slot.unset).toArray = ls at hl ⊢
  have iX6 : ∀ w ∈ wsX60, w ∈ wsX6_isThere := by decide +kernel
  have f20 := hts (.fieldLink RX6 20 "LeafSigner$Signature" "leaf" "I") (by decide +kernel)
  have hl : lv_has ls 1 [(0, .ref s0)] := hl
  refine lv_aload_n hx hb dX6_isThere_0 rfl (lv_at hl 0 rfl) ?_
  refine va_get (D := (dC, dI)) (ci := 6) (v := .int xl) (C := RX6) (T := TX6) (N := 3) hx hb hts iX6 hown hK hP 0 rfl rfl 1 (by decide) f20 (fun _ h9 => h9) rfl dX6_isThere_1 ?_
  refine lv_iconst (v := -1) hx hb dX6_isThere_4 (by decide) ?_
  refine lv_icmp_eq (tgt := 12) hx hb dX6_isThere_5 (by decide) (fun c5 => ?_) (fun c5 => ?_)
  ·
    refine lv_iconst (v := nI 0) hx hb dX6_isThere_12 (by decide) ?_
    exact W.zret (v := nI 0) hx hb hr (by decide) (fun t ht hW => ⟨⟨nI 0, (), rfl, bI_f (fun q => q c5), by rw [ht]; exact hP, va_K.moved hW.alike hK, hD⟩, hS.F ht⟩) hS.2.2 dX6_isThere_13
  ·
    refine lv_iconst (v := nI 1) hx hb dX6_isThere_8 (by decide) ?_
    refine lv_goto (tgt := 13) hx hb dX6_isThere_9 (by decide) ?_
    exact W.zret (v := nI 1) hx hb hr (by decide) (fun t ht hW => ⟨⟨nI 1, (), rfl, bI_t c5, by rw [ht]; exact hP, va_K.moved hW.alike hK, hD⟩, hS.F ht⟩) hS.2.2 dX6_isThere_13

set_option maxHeartbeats 4000000 in
set_option maxRecDepth 100000 in
theorem c_Signature_hasPart (l : Launch) (dC : Nat → ClassId) (dI : Nat → Nat → Nat) (cJ cI : ClassId) (s0 p0 : Nat) (xl xn yk : Int32) (sz : Nat) : Met l yX6_hasPart wsX6_hasPart ({ frames := 0, cells := 0, slots := 0, locals := 0 }) (va_Pc [.ref s0, .int yk] (st_B (dC, dI) vwCl [(cJ, .long), (cI, .int)] [(s0, .inr (6, [.ref p0, .int xl, .int xn]))] sz)) (va_Qi (fun (r : Int32) (_ : Unit) => r = bI (decide (¬ yk < 0 ∧ ¬ xn ≤ yk))) (st_E (dC, dI) vwCl [(cJ, .long), (cI, .int)] (va_A [(s0, .inr (6, [.ref p0, .int xl, .int xn]))] sz) (fun _ => [(s0, .inr (6, [.ref p0, .int xl, .int xn]))])) (va_A [(s0, .inr (6, [.ref p0, .int xl, .int xn]))] sz)) 0 0 (va_A [(s0, .inr (6, [.ref p0, .int xl, .int xn]))] sz) := by
  refine Met.ofW (cc := cX6_hasPart) (maxL := 2) (ret := (some .boolean)) (by decide) rfl ?_
  intro p e s m args below meth c s₁ B hml hv
  obtain ⟨rfl, hsz, hP, hK, hD0⟩ := hv
  have hx := B.exec
  have hb := B.bytes
  have hr := B.returns
  have hts := atoms_spec (ws := wsX6_hasPart) B.pre
  have hown : s.vm.findClass RX6 = some m.cls := findClass_of_methodNamed B.named
  have hlocks := B.notSynchronized
  subst hsz
  have hD := hD0.self (sz := s.heap.size)
  generalize hAe : va_A [(s0, .inr (6, [.ref p0, .int xl, .int xn]))] s.heap.size = A at hD ⊢
  have hA : ∀ q : Nat, s.heap.size ≤ q → A q := fun q h => by rw [← hAe]; exact Or.inr h
  have hS : va_S A s.heap s.heap [] := va_S.rf
  have hP : va_P (dC, dI) vwCl [(s0, .inr (6, [.ref p0, .int xl, .int xn]))] s.heap := hP
  have hl := lv_entry ([.ref s0, .int yk]) (n := 2) (Nat.le_of_ble_eq_true rfl)
  rw [lg_entry_eq]
  generalize (lg_sl ([.ref s0, .int yk]) ++ List.replicate (2 - (lg_sl ([.ref s0, .int yk])).length) Slot.unset).toArray = ls at hl ⊢
  have iX6 : ∀ w ∈ wsX60, w ∈ wsX6_hasPart := by decide +kernel
  have f24 := hts (.fieldLink RX6 24 "LeafSigner$Signature" "size" "I") (by decide +kernel)
  have hl : lv_has ls 2 [(0, .ref s0), (1, .int yk)] := hl
  refine lv_iload_n hx hb dX6_hasPart_0 rfl (lv_at hl 1 rfl) ?_
  refine lv_if_lt (tgt := 16) hx hb dX6_hasPart_1 (by decide) (fun c1 => ?_) (fun c1 => ?_)
  ·
    refine lv_iconst (v := nI 0) hx hb dX6_hasPart_16 (by decide) ?_
    exact W.zret (v := nI 0) hx hb hr (by decide) (fun t ht hW => ⟨⟨nI 0, (), rfl, bI_f (fun q => q.1 c1), by rw [ht]; exact hP, va_K.moved hW.alike hK, hD⟩, hS.F ht⟩) hS.2.2 dX6_hasPart_17
  ·
    refine lv_iload_n hx hb dX6_hasPart_4 rfl (lv_at hl 1 rfl) ?_
    refine lv_aload_n hx hb dX6_hasPart_5 rfl (lv_at hl 0 rfl) ?_
    refine va_get (D := (dC, dI)) (ci := 6) (v := .int xn) (C := RX6) (T := TX6) (N := 3) hx hb hts iX6 hown hK hP 0 rfl rfl 2 (by decide) f24 (fun _ h9 => h9) rfl dX6_hasPart_6 ?_
    refine lv_icmp_ge (tgt := 16) hx hb dX6_hasPart_9 (by decide) (fun c9 => ?_) (fun c9 => ?_)
    ·
      refine lv_iconst (v := nI 0) hx hb dX6_hasPart_16 (by decide) ?_
      exact W.zret (v := nI 0) hx hb hr (by decide) (fun t ht hW => ⟨⟨nI 0, (), rfl, bI_f (fun q => q.2 c9), by rw [ht]; exact hP, va_K.moved hW.alike hK, hD⟩, hS.F ht⟩) hS.2.2 dX6_hasPart_17
    ·
      refine lv_iconst (v := nI 1) hx hb dX6_hasPart_12 (by decide) ?_
      refine lv_goto (tgt := 17) hx hb dX6_hasPart_13 (by decide) ?_
      exact W.zret (v := nI 1) hx hb hr (by decide) (fun t ht hW => ⟨⟨nI 1, (), rfl, bI_t ⟨c1, c9⟩, by rw [ht]; exact hP, va_K.moved hW.alike hK, hD⟩, hS.F ht⟩) hS.2.2 dX6_hasPart_17

set_option maxHeartbeats 4000000 in
set_option maxRecDepth 100000 in
theorem c_Tree_slot (l : Launch) (dC : Nat → ClassId) (dI : Nat → Nat → Nat) (cJ cI : ClassId) (hh lv iv : Nat) (h4 : hh ≤ 4) (hlv : lv ≤ hh) (sz : Nat) : Met l yX7_slot wsX7_slot ({ frames := 0, cells := 0, slots := 0, locals := 0 }) (va_Pc [.int (nI hh), .int (nI lv), .int (nI iv)] (st_B (dC, dI) vwCl [(cJ, .long), (cI, .int)] [] sz)) (va_Qi (fun (r : Int32) (_ : Unit) => r = nI (2 ^ (hh - lv) + iv)) (st_E (dC, dI) vwCl [(cJ, .long), (cI, .int)] (va_A [] sz) (fun _ => [])) (va_A [] sz)) 0 0 (va_A [] sz) := by
  refine Met.ofW (cc := cX7_slot) (maxL := 3) (ret := (some .int)) (by decide) rfl ?_
  intro p e s m args below meth c s₁ B hml hv
  obtain ⟨rfl, hsz, hP, hK, hD0⟩ := hv
  have hx := B.exec
  have hb := B.bytes
  have hr := B.returns
  have hts := atoms_spec (ws := wsX7_slot) B.pre
  have hown : s.vm.findClass RX7 = some m.cls := findClass_of_methodNamed B.named
  have hlocks := B.notSynchronized
  subst hsz
  have hD := hD0.self (sz := s.heap.size)
  generalize hAe : va_A [] s.heap.size = A at hD ⊢
  have hA : ∀ q : Nat, s.heap.size ≤ q → A q := fun q h => by rw [← hAe]; exact Or.inr h
  have hS : va_S A s.heap s.heap [] := va_S.rf
  have hP : va_P (dC, dI) vwCl [] s.heap := hP
  have hl := lv_entry ([.int (nI hh), .int (nI lv), .int (nI iv)]) (n := 3) (Nat.le_of_ble_eq_true rfl)
  rw [lg_entry_eq]
  generalize (lg_sl ([.int (nI hh), .int (nI lv), .int (nI iv)]) ++ List.replicate (3 - (lg_sl ([.int (nI hh), .int (nI lv), .int (nI iv)])).length) Slot.unset).toArray = ls at hl ⊢
  have hl : lv_has ls 3 [(0, .int (nI hh)), (1, .int (nI lv)), (2, .int (nI iv))] := hl
  refine lv_iconst (v := nI 1) hx hb dX7_slot_0 (by decide) ?_
  refine lv_iload_n hx hb dX7_slot_1 rfl (lv_at hl 0 rfl) ?_
  refine lv_iload_n hx hb dX7_slot_2 rfl (lv_at hl 1 rfl) ?_
  refine lv_isub hx hb dX7_slot_3 ?_
  refine st_i (y := nI (hh - lv)) (pk_sub (by omega)) ?_
  refine lv_ishl hx hb dX7_slot_4 ?_
  refine st_i (y := nI (2 ^ (hh - lv))) (st_shl1 (by omega)) ?_
  refine lv_iload_n hx hb dX7_slot_5 rfl (lv_at hl 2 rfl) ?_
  refine lv_iadd hx hb dX7_slot_6 ?_
  refine st_i (y := nI (2 ^ (hh - lv) + iv)) (nI_add (2 ^ (hh - lv)) iv) ?_
  exact W.iret (v := nI (2 ^ (hh - lv) + iv)) hx hb hr (fun t ht hW => ⟨⟨nI (2 ^ (hh - lv) + iv), (), rfl, rfl, by rw [ht]; exact hP, va_K.moved hW.alike hK, hD⟩, hS.F ht⟩) hS.2.2 dX7_slot_7

set_option maxHeartbeats 4000000 in
set_option maxRecDepth 100000 in
theorem c_Tree_clear (l : Launch) (dC : Nat → ClassId) (dI : Nat → Nat → Nat) (cJ cI : ClassId) (t0 n0 : Nat) (xm : Int32) (sz : Nat) : Met l yX7_clear wsX7_clear ({ frames := 0, cells := 0, slots := 0, locals := 0 }) (va_Pc [.ref t0] (st_B (dC, dI) vwCl [(cJ, .long), (cI, .int)] [(t0, .inr (7, [.ref n0, .int xm]))] sz)) (va_Qv (fun _ : Unit => True) (st_E (dC, dI) vwCl [(cJ, .long), (cI, .int)] (va_A [(t0, .inr (7, [.ref n0, .int xm]))] sz) (fun _ => [(t0, .inr (7, [.ref n0, .int (nI 0)]))])) (va_A [(t0, .inr (7, [.ref n0, .int xm]))] sz)) 0 0 (va_A [(t0, .inr (7, [.ref n0, .int xm]))] sz) := by
  refine Met.ofW (cc := cX7_clear) (maxL := 1) (ret := none) (by decide) rfl ?_
  intro p e s m args below meth c s₁ B hml hv
  obtain ⟨rfl, hsz, hP, hK, hD0⟩ := hv
  have hx := B.exec
  have hb := B.bytes
  have hr := B.returns
  have hts := atoms_spec (ws := wsX7_clear) B.pre
  have hown : s.vm.findClass RX7 = some m.cls := findClass_of_methodNamed B.named
  have hlocks := B.notSynchronized
  subst hsz
  have hD := hD0.self (sz := s.heap.size)
  generalize hAe : va_A [(t0, .inr (7, [.ref n0, .int xm]))] s.heap.size = A at hD ⊢
  have hA : ∀ q : Nat, s.heap.size ≤ q → A q := fun q h => by rw [← hAe]; exact Or.inr h
  have hS : va_S A s.heap s.heap [] := va_S.rf
  have hP : va_P (dC, dI) vwCl [(t0, .inr (7, [.ref n0, .int xm]))] s.heap := hP
  have hl := lv_entry ([.ref t0]) (n := 1) (Nat.le_of_ble_eq_true rfl)
  rw [lg_entry_eq]
  generalize (lg_sl ([.ref t0]) ++ List.replicate (1 - (lg_sl ([.ref t0])).length) Slot.unset).toArray = ls at hl ⊢
  have iX7 : ∀ w ∈ wsX70, w ∈ wsX7_clear := by decide +kernel
  have f20 := hts (.fieldLink RX7 20 "LeafSigner$Tree" "made" "I") (by decide +kernel)
  have hl : lv_has ls 1 [(0, .ref t0)] := hl
  refine lv_aload_n hx hb dX7_clear_0 rfl (lv_at hl 0 rfl) ?_
  refine lv_iconst (v := nI 0) hx hb dX7_clear_1 (by decide) ?_
  refine va_put (D := (dC, dI)) (ci := 7) (v := .int (nI 0)) (ty := .int) (C := RX7) (T := TX7) (N := 2) hx hb hts iX7 tyX7 tyX7_ok nmX7 hown hK hP hD hS 0 rfl rfl 1 (by decide) f20 (fun _ h9 => h9) rfl (by decide +kernel) rfl rfl (Nat.le_of_ble_eq_true rfl) dX7_clear_2 (fun H locs hP hD hS => ?_)
  have hP : va_P (dC, dI) vwCl [(t0, .inr (7, [.ref n0, .int (nI 0)]))] H := hP
  have hD : va_D A [(t0, .inr (7, [.ref n0, .int (nI 0)]))] := hD
  exact W.vret hx hb hr (fun t ht hW => ⟨⟨(), rfl, trivial, by rw [ht]; exact hP, va_K.moved hW.alike hK, hD⟩, hS.F ht⟩) hS.2.2 dX7_clear_5

set_option maxHeartbeats 4000000 in
set_option maxRecDepth 100000 in
theorem c_Tree_isMade (l : Launch) (dC : Nat → ClassId) (dI : Nat → Nat → Nat) (cJ cI : ClassId) (t0 n0 : Nat) (hh md : Nat) (xl xi : Int32) (h4 : hh ≤ 4) (hmd : md < 2 ^ 31) (sz : Nat) : Met l yX7_isMade wsX7_isMade ({ frames := 0, cells := 0, slots := 0, locals := 0 }) (va_Pc [.ref t0, .int (nI hh), .int xl, .int xi] (st_B (dC, dI) vwCl [(cJ, .long), (cI, .int)] [(t0, .inr (7, [.ref n0, .int (nI md)]))] sz)) (va_Qi (fun (r : Int32) (_ : Unit) => r = bI (isMB hh md xl xi)) (st_E (dC, dI) vwCl [(cJ, .long), (cI, .int)] (va_A [(t0, .inr (7, [.ref n0, .int (nI md)]))] sz) (fun _ => [(t0, .inr (7, [.ref n0, .int (nI md)]))])) (va_A [(t0, .inr (7, [.ref n0, .int (nI md)]))] sz)) 0 0 (va_A [(t0, .inr (7, [.ref n0, .int (nI md)]))] sz) := by
  refine Met.ofW (cc := cX7_isMade) (maxL := 4) (ret := (some .boolean)) (by decide) rfl ?_
  intro p e s m args below meth c s₁ B hml hv
  obtain ⟨rfl, hsz, hP, hK, hD0⟩ := hv
  have hx := B.exec
  have hb := B.bytes
  have hr := B.returns
  have hts := atoms_spec (ws := wsX7_isMade) B.pre
  have hown : s.vm.findClass RX7 = some m.cls := findClass_of_methodNamed B.named
  have hlocks := B.notSynchronized
  subst hsz
  have hD := hD0.self (sz := s.heap.size)
  generalize hAe : va_A [(t0, .inr (7, [.ref n0, .int (nI md)]))] s.heap.size = A at hD ⊢
  have hA : ∀ q : Nat, s.heap.size ≤ q → A q := fun q h => by rw [← hAe]; exact Or.inr h
  have hS : va_S A s.heap s.heap [] := va_S.rf
  have hP : va_P (dC, dI) vwCl [(t0, .inr (7, [.ref n0, .int (nI md)]))] s.heap := hP
  have hl := lv_entry ([.ref t0, .int (nI hh), .int xl, .int xi]) (n := 4) (Nat.le_of_ble_eq_true rfl)
  rw [lg_entry_eq]
  generalize (lg_sl ([.ref t0, .int (nI hh), .int xl, .int xi]) ++ List.replicate (4 - (lg_sl ([.ref t0, .int (nI hh), .int xl, .int xi])).length) Slot.unset).toArray = ls at hl ⊢
  have iX7 : ∀ w ∈ wsX70, w ∈ wsX7_isMade := by decide +kernel
  have f20 := hts (.fieldLink RX7 20 "LeafSigner$Tree" "made" "I") (by decide +kernel)
  have hl : lv_has ls 4 [(0, .ref t0), (1, .int (nI hh)), (2, .int xl), (3, .int xi)] := hl
  refine lv_iload_n hx hb dX7_isMade_0 rfl (lv_at hl 2 rfl) ?_
  refine lv_if_lt (tgt := 27) hx hb dX7_isMade_1 (by decide) (fun c1 => ?_) (fun c1 => ?_)
  ·
    refine lv_iconst (v := nI 0) hx hb dX7_isMade_27 (by decide) ?_
    exact W.zret (v := nI 0) hx hb hr (by decide) (fun t ht hW => ⟨⟨nI 0, (), rfl, bI_f2 (fun q => (isMB_iff.mp q).1 c1), by rw [ht]; exact hP, va_K.moved hW.alike hK, hD⟩, hS.F ht⟩) hS.2.2 dX7_isMade_28
  ·
    refine lv_iload_n hx hb dX7_isMade_4 rfl (lv_at hl 2 rfl) ?_
    refine lv_iload_n hx hb dX7_isMade_5 rfl (lv_at hl 1 rfl) ?_
    refine lv_icmp_gt (tgt := 27) hx hb dX7_isMade_6 (by decide) (fun c6 => ?_) (fun c6 => ?_)
    ·
      refine lv_iconst (v := nI 0) hx hb dX7_isMade_27 (by decide) ?_
      exact W.zret (v := nI 0) hx hb hr (by decide) (fun t ht hW => ⟨⟨nI 0, (), rfl, bI_f2 (fun q => (isMB_iff.mp q).2.1 c6), by rw [ht]; exact hP, va_K.moved hW.alike hK, hD⟩, hS.F ht⟩) hS.2.2 dX7_isMade_28
    ·
      obtain ⟨lv, hlv, rfl⟩ := isM_lv c1 c6 h4
      refine lv_iload_n hx hb dX7_isMade_9 rfl (lv_at hl 3 rfl) ?_
      refine lv_if_lt (tgt := 27) hx hb dX7_isMade_10 (by decide) (fun c10 => ?_) (fun c10 => ?_)
      ·
        refine lv_iconst (v := nI 0) hx hb dX7_isMade_27 (by decide) ?_
        exact W.zret (v := nI 0) hx hb hr (by decide) (fun t ht hW => ⟨⟨nI 0, (), rfl, bI_f2 (fun q => (isMB_iff.mp q).2.2.1 c10), by rw [ht]; exact hP, va_K.moved hW.alike hK, hD⟩, hS.F ht⟩) hS.2.2 dX7_isMade_28
      ·
        obtain ⟨iv, hiv, rfl⟩ := nI_of c10
        have hdv := Nat.div_le_self md (2 ^ lv)
        refine lv_iload_n hx hb dX7_isMade_13 rfl (lv_at hl 3 rfl) ?_
        refine lv_aload_n hx hb dX7_isMade_14 rfl (lv_at hl 0 rfl) ?_
        refine va_get (D := (dC, dI)) (ci := 7) (v := .int (nI md)) (C := RX7) (T := TX7) (N := 2) hx hb hts iX7 hown hK hP 0 rfl rfl 1 (by decide) f20 (fun _ h9 => h9) rfl dX7_isMade_15 ?_
        refine lv_iload_n hx hb dX7_isMade_18 rfl (lv_at hl 2 rfl) ?_
        refine lv_ishr hx hb dX7_isMade_19 ?_
        refine st_i (y := nI (md / 2 ^ lv)) (st_shr (by omega) (by omega)) ?_
        refine lv_icmp_ge (tgt := 27) hx hb dX7_isMade_20 (by decide) (fun c20 => ?_) (fun c20 => ?_)
        ·
          rw [q_le (by omega) (by omega)] at c20
          refine lv_iconst (v := nI 0) hx hb dX7_isMade_27 (by decide) ?_
          exact W.zret (v := nI 0) hx hb hr (by decide) (fun t ht hW => ⟨⟨nI 0, (), rfl, bI_f2 (fun q => isM_no (by omega) (by omega) (by omega) c20 q), by rw [ht]; exact hP, va_K.moved hW.alike hK, hD⟩, hS.F ht⟩) hS.2.2 dX7_isMade_28
        ·
          rw [q_le (by omega) (by omega)] at c20
          refine lv_iconst (v := nI 1) hx hb dX7_isMade_23 (by decide) ?_
          refine lv_goto (tgt := 28) hx hb dX7_isMade_24 (by decide) ?_
          exact W.zret (v := nI 1) hx hb hr (by decide) (fun t ht hW => ⟨⟨nI 1, (), rfl, bI_t2 (isM_yes hlv (by omega) (by omega) c20), by rw [ht]; exact hP, va_K.moved hW.alike hK, hD⟩, hS.F ht⟩) hS.2.2 dX7_isMade_28

set_option maxHeartbeats 4000000 in
set_option maxRecDepth 100000 in
theorem c_LeafSigner_isHalf (l : Launch) (dC : Nat → ClassId) (dI : Nat → Nat → Nat) (cJ cI : ClassId) (xh : Int32) (sz : Nat) : Met l yX8_isHalf wsX8_isHalf ({ frames := 0, cells := 0, slots := 0, locals := 0 }) (va_Pc [.int xh] (st_B (dC, dI) vwCl [(cJ, .long), (cI, .int)] [] sz)) (va_Qi (fun (r : Int32) (_ : Unit) => r = bI (decide (xh = 0 ∨ xh = nI 1))) (st_E (dC, dI) vwCl [(cJ, .long), (cI, .int)] (va_A [] sz) (fun _ => [])) (va_A [] sz)) 0 0 (va_A [] sz) := by
  refine Met.ofW (cc := cX8_isHalf) (maxL := 1) (ret := (some .boolean)) (by decide) rfl ?_
  intro p e s m args below meth c s₁ B hml hv
  obtain ⟨rfl, hsz, hP, hK, hD0⟩ := hv
  have hx := B.exec
  have hb := B.bytes
  have hr := B.returns
  have hts := atoms_spec (ws := wsX8_isHalf) B.pre
  have hown : s.vm.findClass RX8 = some m.cls := findClass_of_methodNamed B.named
  have hlocks := B.notSynchronized
  subst hsz
  have hD := hD0.self (sz := s.heap.size)
  generalize hAe : va_A [] s.heap.size = A at hD ⊢
  have hA : ∀ q : Nat, s.heap.size ≤ q → A q := fun q h => by rw [← hAe]; exact Or.inr h
  have hS : va_S A s.heap s.heap [] := va_S.rf
  have hP : va_P (dC, dI) vwCl [] s.heap := hP
  have hl := lv_entry ([.int xh]) (n := 1) (Nat.le_of_ble_eq_true rfl)
  rw [lg_entry_eq]
  generalize (lg_sl ([.int xh]) ++ List.replicate (1 - (lg_sl ([.int xh])).length) Slot.unset).toArray = ls at hl ⊢
  have hl : lv_has ls 1 [(0, .int xh)] := hl
  refine lv_iload_n hx hb dX8_isHalf_0 rfl (lv_at hl 0 rfl) ?_
  refine lv_if_eq (tgt := 9) hx hb dX8_isHalf_1 (by decide) (fun c1 => ?_) (fun c1 => ?_)
  ·
    refine lv_iconst (v := nI 1) hx hb dX8_isHalf_9 (by decide) ?_
    refine lv_goto (tgt := 14) hx hb dX8_isHalf_10 (by decide) ?_
    exact W.zret (v := nI 1) hx hb hr (by decide) (fun t ht hW => ⟨⟨nI 1, (), rfl, bI_t (Or.inl c1), by rw [ht]; exact hP, va_K.moved hW.alike hK, hD⟩, hS.F ht⟩) hS.2.2 dX8_isHalf_14
  ·
    refine lv_iload_n hx hb dX8_isHalf_4 rfl (lv_at hl 0 rfl) ?_
    refine lv_iconst (v := nI 1) hx hb dX8_isHalf_5 (by decide) ?_
    refine lv_icmp_ne (tgt := 13) hx hb dX8_isHalf_6 (by decide) (fun c6 => ?_) (fun c6 => ?_)
    ·
      refine lv_iconst (v := nI 0) hx hb dX8_isHalf_13 (by decide) ?_
      exact W.zret (v := nI 0) hx hb hr (by decide) (fun t ht hW => ⟨⟨nI 0, (), rfl, bI_f (fun q => q.elim c1 c6), by rw [ht]; exact hP, va_K.moved hW.alike hK, hD⟩, hS.F ht⟩) hS.2.2 dX8_isHalf_14
    ·
      refine lv_iconst (v := nI 1) hx hb dX8_isHalf_9 (by decide) ?_
      refine lv_goto (tgt := 14) hx hb dX8_isHalf_10 (by decide) ?_
      exact W.zret (v := nI 1) hx hb hr (by decide) (fun t ht hW => ⟨⟨nI 1, (), rfl, bI_t (Or.inr c6), by rw [ht]; exact hP, va_K.moved hW.alike hK, hD⟩, hS.F ht⟩) hS.2.2 dX8_isHalf_14

set_option maxHeartbeats 4000000 in
set_option maxRecDepth 100000 in
theorem c_Digits_fourBits (l : Launch) (dC : Nat → ClassId) (dI : Nat → Nat → Nat) (cJ cI : ClassId) (xv : Int64) (k : Nat) (hk : 4 * k < 64) (sz : Nat) : Met l yX1_fourBits wsX1_fourBits ({ frames := 0, cells := 0, slots := 0, locals := 0 }) (va_Pc [.long xv, .int (nI k)] (st_B (dC, dI) vwCl [(cJ, .long), (cI, .int)] [] sz)) (va_Qi (fun (r : Int32) (_ : Unit) => r = nI (dg4 xv (4 * k))) (st_E (dC, dI) vwCl [(cJ, .long), (cI, .int)] (va_A [] sz) (fun _ => [])) (va_A [] sz)) 0 0 (va_A [] sz) := by
  refine Met.ofW (cc := cX1_fourBits) (maxL := 3) (ret := (some .int)) (by decide) rfl ?_
  intro p e s m args below meth c s₁ B hml hv
  obtain ⟨rfl, hsz, hP, hK, hD0⟩ := hv
  have hx := B.exec
  have hb := B.bytes
  have hr := B.returns
  have hts := atoms_spec (ws := wsX1_fourBits) B.pre
  have hown : s.vm.findClass RX1 = some m.cls := findClass_of_methodNamed B.named
  have hlocks := B.notSynchronized
  subst hsz
  have hD := hD0.self (sz := s.heap.size)
  generalize hAe : va_A [] s.heap.size = A at hD ⊢
  have hA : ∀ q : Nat, s.heap.size ≤ q → A q := fun q h => by rw [← hAe]; exact Or.inr h
  have hS : va_S A s.heap s.heap [] := va_S.rf
  have hP : va_P (dC, dI) vwCl [] s.heap := hP
  have hl := lv_entry ([.long xv, .int (nI k)]) (n := 3) (Nat.le_of_ble_eq_true rfl)
  rw [lg_entry_eq]
  generalize (lg_sl ([.long xv, .int (nI k)]) ++ List.replicate (3 - (lg_sl ([.long xv, .int (nI k)])).length) Slot.unset).toArray = ls at hl ⊢
  have hl : lv_has ls 3 [(0, .long xv), (2, .int (nI k))] := hl
  refine lv_lload_n hx hb dX1_fourBits_0 rfl (lv_at hl 0 rfl) ?_
  refine lv_iconst (v := nI 4) hx hb dX1_fourBits_1 (by decide) ?_
  refine lv_iload_n hx hb dX1_fourBits_2 rfl (lv_at hl 1 rfl) ?_
  refine lv_imul hx hb dX1_fourBits_3 ?_
  refine st_i (y := nI (4 * k)) (pk_mul 4 k) ?_
  refine lv_lushr (v := (xv.toUInt64 >>> ((nI (4 * k)).toInt64.toUInt64 &&& Int64.toUInt64 63)).toInt64) hx hb dX1_fourBits_4 rfl ?_
  refine lv_l2i (v := ((xv.toUInt64 >>> ((nI (4 * k)).toInt64.toUInt64 &&& Int64.toUInt64 63)).toInt64).toInt32) hx hb dX1_fourBits_5 rfl ?_
  refine lv_bipush (v := nI 15) hx hb dX1_fourBits_6 (by decide) ?_
  refine lv_iand hx hb dX1_fourBits_8 ?_
  refine st_i (y := nI (dg4 xv (4 * k))) (pk_and _ 4 (by decide)) ?_
  exact W.iret (v := nI (dg4 xv (4 * k))) hx hb hr (fun t ht hW => ⟨⟨nI (dg4 xv (4 * k)), (), rfl, rfl, by rw [ht]; exact hP, va_K.moved hW.alike hK, hD⟩, hS.F ht⟩) hS.2.2 dX1_fourBits_9
end
section
set_option maxHeartbeats 4000000 in
set_option maxRecDepth 100000 in
theorem c_Digits_read (l : Launch) (dC : Nat → ClassId) (dI : Nat → Nat → Nat) (cJ cI : ClassId) (d0 d1 : Nat) (dv : Nat → Int32) (v1 v2 : Int64) (sz : Nat) : Met l yX1_read wsX1_read ({ frames := 1, cells := 0, slots := 0, locals := 22 }) (va_Pc [.ref d0, .long v1, .long v2] (st_B (dC, dI) vwCl [(cJ, .long), (cI, .int)] [(d0, .inr (1, [.ref d1])), (d1, .inl (cI, 35, .inl (dv)))] sz)) (va_Qv (fun _ : Unit => True) (st_E (dC, dI) vwCl [(cJ, .long), (cI, .int)] (va_A [(d0, .inr (1, [.ref d1])), (d1, .inl (cI, 35, .inl (dv)))] sz) (fun _ => [(d0, .inr (1, [.ref d1])), (d1, .inl (cI, 35, .inl (mkT (fun k => nI (digs (v1, v2) k)) 35 dv)))])) (va_A [(d0, .inr (1, [.ref d1])), (d1, .inl (cI, 35, .inl (dv)))] sz)) 0 0 (va_A [(d0, .inr (1, [.ref d1])), (d1, .inl (cI, 35, .inl (dv)))] sz) := by
  refine Met.ofW (cc := cX1_read) (maxL := 9) (ret := none) (by decide) rfl ?_
  intro p e s m args below meth c s₁ B hml hv
  obtain ⟨rfl, hsz, hP, hK, hD0⟩ := hv
  have hx := B.exec
  have hb := B.bytes
  have hr := B.returns
  have hts := atoms_spec (ws := wsX1_read) B.pre
  have hown : s.vm.findClass RX1 = some m.cls := findClass_of_methodNamed B.named
  have hlocks := B.notSynchronized
  subst hsz
  have hD := hD0.self (sz := s.heap.size)
  generalize hAe : va_A [(d0, .inr (1, [.ref d1])), (d1, .inl (cI, 35, .inl (dv)))] s.heap.size = A at hD ⊢
  have hA : ∀ q : Nat, s.heap.size ≤ q → A q := fun q h => by rw [← hAe]; exact Or.inr h
  have hS : va_S A s.heap s.heap [] := va_S.rf
  have hP : va_P (dC, dI) vwCl [(d0, .inr (1, [.ref d1])), (d1, .inl (cI, 35, .inl (dv)))] s.heap := hP
  have hl := lv_entry ([.ref d0, .long v1, .long v2]) (n := 9) (Nat.le_of_ble_eq_true rfl)
  rw [lg_entry_eq]
  generalize (lg_sl ([.ref d0, .long v1, .long v2]) ++ List.replicate (9 - (lg_sl ([.ref d0, .long v1, .long v2])).length) Slot.unset).toArray = ls at hl ⊢
  have iX1 : ∀ w ∈ wsX10, w ∈ wsX1_read := by decide +kernel
  have f9 := hts (.fieldLink RX1 9 "LeafSigner$Digits" "values" "[I") (by decide +kernel)
  have hl : lv_has ls 9 [(0, .ref d0), (1, .long v1), (3, .long v2)] := hl
  have hk32 := lk_le (v1, v2) 32
  refine lv_iconst (v := nI 0) hx hb dX1_read_0 (by decide) ?_
  refine lv_istore (lv' := [(5, .int (nI 0)), (0, .ref d0), (1, .long v1), (3, .long v2)]) hx hb dX1_read_1 hl (by decide) rfl (fun ls hl => ?_)
  refine lv_iconst (v := nI 0) hx hb dX1_read_3 (by decide) ?_
  refine lv_istore (lv' := [(6, .int (nI 0)), (5, .int (nI 0)), (0, .ref d0), (1, .long v1), (3, .long v2)]) hx hb dX1_read_4 hl (by decide) rfl (fun ls hl => ?_)
  have eW_1 : ([(d0, .inr (1, [.ref d1])), (d1, .inl (cI, 35, .inl (dv)))] : va_W) = [(d0, .inr (1, [.ref d1])), (d1, .inl (cI, 35, .inl (mkT (fun k => nI (d4 (v1, v2) k)) 0 dv)))] := by rw [mkT_0]
  have hP : va_P (dC, dI) vwCl [(d0, .inr (1, [.ref d1])), (d1, .inl (cI, 35, .inl (mkT (fun k => nI (d4 (v1, v2) k)) 0 dv)))] s.heap := by rw [← eW_1]; exact hP
  have hD : va_D A [(d0, .inr (1, [.ref d1])), (d1, .inl (cI, 35, .inl (mkT (fun k => nI (d4 (v1, v2) k)) 0 dv)))] := by rw [← eW_1]; exact hD
  refine st_loop (I := fun i H locs ls => va_P (dC, dI) vwCl [(d0, .inr (1, [.ref d1])), (d1, .inl (cI, 35, .inl (mkT (fun k => nI (d4 (v1, v2) k)) i dv)))] H ∧ va_D A [(d0, .inr (1, [.ref d1])), (d1, .inl (cI, 35, .inl (mkT (fun k => nI (d4 (v1, v2) k)) i dv)))] ∧ va_S A s.heap H locs ∧ lv_has ls 9 [(0, .ref d0), (1, .long v1), (3, .long v2), (5, .int (nI (lk (v1, v2) i))), (6, .int (nI i))]) 0 32 (by omega) ⟨hP, hD, hS, lv_sub hl [2, 3, 4, 1, 0] rfl⟩ (fun H locs ls hI => ?_) (fun i H locs ls hi hI ih => ?_)
  ·
    obtain ⟨hP, hD, hS, hl⟩ := hI
    have hP : va_P (dC, dI) vwCl [(d0, .inr (1, [.ref d1])), (d1, .inl (cI, 35, .inl (mkT (fun k => nI (d4 (v1, v2) k)) 32 dv)))] H := hP
    have hD : va_D A [(d0, .inr (1, [.ref d1])), (d1, .inl (cI, 35, .inl (mkT (fun k => nI (d4 (v1, v2) k)) 32 dv)))] := hD
    have hl : lv_has ls 9 [(0, .ref d0), (1, .long v1), (3, .long v2), (5, .int (nI (lk (v1, v2) 32))), (6, .int (nI 32))] := hl
    refine lv_iload hx hb dX1_read_6 (lv_at hl 4 rfl) ?_
    refine lv_bipush (v := nI 32) hx hb dX1_read_8 (by decide) ?_
    refine lv_icmp_ge (tgt := 68) hx hb dX1_read_10 (by decide) (fun c10 => ?_) (fun c10 => ?_)
    ·
      rw [q_le (by omega) (by omega)] at c10
      refine lv_bipush (v := nI 32) hx hb dX1_read_68 (by decide) ?_
      refine lv_istore (lv' := [(6, .int (nI 32)), (0, .ref d0), (1, .long v1), (3, .long v2), (5, .int (nI (lk (v1, v2) 32)))]) hx hb dX1_read_70 hl (by decide) rfl (fun ls hl => ?_)
      have eW_2 : ([(d0, .inr (1, [.ref d1])), (d1, .inl (cI, 35, .inl (mkT (fun k => nI (d4 (v1, v2) k)) 32 dv)))] : va_W) = [(d0, .inr (1, [.ref d1])), (d1, .inl (cI, 35, .inl (mkT (fun k => nI (digs (v1, v2) k)) 32 dv)))] := by rw [mkT_congr (fun k hk => congrArg nI (digs_lo (v1, v2) hk).symm)]
      have hP : va_P (dC, dI) vwCl [(d0, .inr (1, [.ref d1])), (d1, .inl (cI, 35, .inl (mkT (fun k => nI (digs (v1, v2) k)) 32 dv)))] H := by rw [← eW_2]; exact hP
      have hD : va_D A [(d0, .inr (1, [.ref d1])), (d1, .inl (cI, 35, .inl (mkT (fun k => nI (digs (v1, v2) k)) 32 dv)))] := by rw [← eW_2]; exact hD
      refine st_loop (I := fun i H locs ls => (32 ≤ i) ∧ va_P (dC, dI) vwCl [(d0, .inr (1, [.ref d1])), (d1, .inl (cI, 35, .inl (mkT (fun k => nI (digs (v1, v2) k)) i dv)))] H ∧ va_D A [(d0, .inr (1, [.ref d1])), (d1, .inl (cI, 35, .inl (mkT (fun k => nI (digs (v1, v2) k)) i dv)))] ∧ va_S A s.heap H locs ∧ lv_has ls 9 [(0, .ref d0), (1, .long v1), (3, .long v2), (5, .int (nI (lk (v1, v2) 32))), (6, .int (nI i))]) 32 35 (by omega) ⟨(Nat.le_refl 32), hP, hD, hS, lv_sub hl [1, 2, 3, 4, 0] rfl⟩ (fun H locs ls hI => ?_) (fun i H locs ls hi hI ih => ?_)
      ·
        obtain ⟨hi0, hP, hD, hS, hl⟩ := hI
        have hP : va_P (dC, dI) vwCl [(d0, .inr (1, [.ref d1])), (d1, .inl (cI, 35, .inl (mkT (fun k => nI (digs (v1, v2) k)) 35 dv)))] H := hP
        have hD : va_D A [(d0, .inr (1, [.ref d1])), (d1, .inl (cI, 35, .inl (mkT (fun k => nI (digs (v1, v2) k)) 35 dv)))] := hD
        have hl : lv_has ls 9 [(0, .ref d0), (1, .long v1), (3, .long v2), (5, .int (nI (lk (v1, v2) 32))), (6, .int (nI 35))] := hl
        refine lv_iload hx hb dX1_read_72 (lv_at hl 4 rfl) ?_
        refine lv_bipush (v := nI 35) hx hb dX1_read_74 (by decide) ?_
        refine lv_icmp_ge (tgt := 103) hx hb dX1_read_76 (by decide) (fun c76 => ?_) (fun c76 => ?_)
        ·
          rw [q_le (by omega) (by omega)] at c76
          exact W.vret hx hb hr (fun t ht hW => ⟨⟨(), rfl, trivial, by rw [ht]; exact hP, va_K.moved hW.alike hK, hD⟩, hS.F ht⟩) hS.2.2 dX1_read_103
        ·
          rw [q_le (by omega) (by omega)] at c76
          exact absurd c76 (by omega)
      ·
        obtain ⟨hi0, hP, hD, hS, hl⟩ := hI
        have hP : va_P (dC, dI) vwCl [(d0, .inr (1, [.ref d1])), (d1, .inl (cI, 35, .inl (mkT (fun k => nI (digs (v1, v2) k)) i dv)))] H := hP
        have hD : va_D A [(d0, .inr (1, [.ref d1])), (d1, .inl (cI, 35, .inl (mkT (fun k => nI (digs (v1, v2) k)) i dv)))] := hD
        have hl : lv_has ls 9 [(0, .ref d0), (1, .long v1), (3, .long v2), (5, .int (nI (lk (v1, v2) 32))), (6, .int (nI i))] := hl
        refine lv_iload hx hb dX1_read_72 (lv_at hl 4 rfl) ?_
        refine lv_bipush (v := nI 35) hx hb dX1_read_74 (by decide) ?_
        refine lv_icmp_ge (tgt := 103) hx hb dX1_read_76 (by decide) (fun c76 => ?_) (fun c76 => ?_)
        ·
          rw [q_le (by omega) (by omega)] at c76
          exact absurd c76 (by omega)
        ·
          rw [q_le (by omega) (by omega)] at c76
          refine lv_aload_n hx hb dX1_read_79 rfl (lv_at hl 0 rfl) ?_
          refine va_get (D := (dC, dI)) (ci := 1) (v := .ref d1) (C := RX1) (T := TX1) (N := 1) hx hb hts iX1 hown hK hP 0 rfl rfl 0 (by decide) f9 (fun _ h9 => h9) rfl dX1_read_80 ?_
          refine lv_iload hx hb dX1_read_83 (lv_at hl 4 rfl) ?_
          refine lv_iload hx hb dX1_read_85 (lv_at hl 3 rfl) ?_
          refine lv_i2l (v := lN (lk (v1, v2) 32)) hx hb dX1_read_87 (nI_l (by omega)) ?_
          refine lv_bipush (v := nI 34) hx hb dX1_read_88 (by decide) ?_
          refine lv_iload hx hb dX1_read_90 (lv_at hl 4 rfl) ?_
          refine lv_isub hx hb dX1_read_92 ?_
          refine st_i (y := nI (34 - i)) (pk_sub (by omega)) ?_
          refine st_calli (va_runS (As := [.long (lN (lk (v1, v2) 32)), .int (nI (34 - i))]) (rest := [.int (nI i), .ref d1]) ⟨hx, hb, hml, hown, hts⟩ (c_Digits_fourBits l dC dI cJ cI  (lN (lk (v1, v2) 32)) (34 - i) (by omega) H.size) (va_cwS 2 hts gX1_read_X1_fourBits rfl rfl rfl (by decide +kernel) ⟨Nat.le_of_ble_eq_true rfl, Nat.le_of_ble_eq_true rfl⟩) (st_preS hK hP hD [] rfl rfl) rfl rfl hl.1 rfl (lv_room (Nat.le_of_ble_eq_true rfl)) dX1_read_93 ⟨Nat.le_of_ble_eq_true rfl, Nat.le_of_ble_eq_true rfl⟩) hP hD hS hA [] [0, 1] (wr := [(d0, .inr (1, [.ref d1])), (d1, .inl (cI, 35, .inl (mkT (fun k => nI (digs (v1, v2) k)) i dv)))]) rfl rfl (by decide) (by decide) [0, 1] (res := fun _ => [(d0, .inr (1, [.ref d1])), (d1, .inl (cI, 35, .inl (mkT (fun k => nI (digs (v1, v2) k)) i dv)))]) (fun _ => rfl) (by decide) (fun r_3 _ H locs hu hP hD hS => ?_)
          have hP : va_P (dC, dI) vwCl [(d0, .inr (1, [.ref d1])), (d1, .inl (cI, 35, .inl (mkT (fun k => nI (digs (v1, v2) k)) i dv)))] H := hP
          have hD : va_D A [(d0, .inr (1, [.ref d1])), (d1, .inl (cI, 35, .inl (mkT (fun k => nI (digs (v1, v2) k)) i dv)))] := hD
          subst hu
          refine st_i (y := nI (digs (v1, v2) i)) (congrArg nI (digs_hi (v1, v2) (by omega) (by omega))) ?_
          refine st_iast hx hb hK hP hD hS 1 1 rfl rfl i rfl (by omega) (by omega) dX1_read_96 (fun H locs hP hD hS => ?_)
          have hP : va_P (dC, dI) vwCl [(d0, .inr (1, [.ref d1])), (d1, .inl (cI, 35, .inl (upd (mkT (fun k => nI (digs (v1, v2) k)) i dv) i (nI (digs (v1, v2) i)))))] H := hP
          have hD : va_D A [(d0, .inr (1, [.ref d1])), (d1, .inl (cI, 35, .inl (upd (mkT (fun k => nI (digs (v1, v2) k)) i dv) i (nI (digs (v1, v2) i)))))] := hD
          refine lv_iinc (v := nI (i + 1)) (lv' := [(6, .int (nI (i + 1))), (0, .ref d0), (1, .long v1), (3, .long v2), (5, .int (nI (lk (v1, v2) 32)))]) hx hb dX1_read_97 hl (k := 4) rfl (st_inc i 1 (by decide)) (by decide) rfl (fun ls hl => ?_)
          refine lv_goto (tgt := 72) hx hb dX1_read_100 (by decide) ?_
          have eW_4 : ([(d0, .inr (1, [.ref d1])), (d1, .inl (cI, 35, .inl (upd (mkT (fun k => nI (digs (v1, v2) k)) i dv) i (nI (digs (v1, v2) i)))))] : va_W) = [(d0, .inr (1, [.ref d1])), (d1, .inl (cI, 35, .inl (mkT (fun k => nI (digs (v1, v2) k)) (i + 1) dv)))] := by rw [← mkT_upd]
          have hP : va_P (dC, dI) vwCl [(d0, .inr (1, [.ref d1])), (d1, .inl (cI, 35, .inl (mkT (fun k => nI (digs (v1, v2) k)) (i + 1) dv)))] H := by rw [← eW_4]; exact hP
          have hD : va_D A [(d0, .inr (1, [.ref d1])), (d1, .inl (cI, 35, .inl (mkT (fun k => nI (digs (v1, v2) k)) (i + 1) dv)))] := by rw [← eW_4]; exact hD
          exact ih _ _ _ ⟨(by omega), hP, hD, hS, lv_sub hl [1, 2, 3, 4, 0] rfl⟩
    ·
      rw [q_le (by omega) (by omega)] at c10
      exact absurd c10 (by omega)
  ·
    obtain ⟨hP, hD, hS, hl⟩ := hI
    have hP : va_P (dC, dI) vwCl [(d0, .inr (1, [.ref d1])), (d1, .inl (cI, 35, .inl (mkT (fun k => nI (d4 (v1, v2) k)) i dv)))] H := hP
    have hD : va_D A [(d0, .inr (1, [.ref d1])), (d1, .inl (cI, 35, .inl (mkT (fun k => nI (d4 (v1, v2) k)) i dv)))] := hD
    have hl : lv_has ls 9 [(0, .ref d0), (1, .long v1), (3, .long v2), (5, .int (nI (lk (v1, v2) i))), (6, .int (nI i))] := hl
    refine lv_iload hx hb dX1_read_6 (lv_at hl 4 rfl) ?_
    refine lv_bipush (v := nI 32) hx hb dX1_read_8 (by decide) ?_
    refine lv_icmp_ge (tgt := 68) hx hb dX1_read_10 (by decide) (fun c10 => ?_) (fun c10 => ?_)
    ·
      rw [q_le (by omega) (by omega)] at c10
      exact absurd c10 (by omega)
    ·
      rw [q_le (by omega) (by omega)] at c10
      refine lv_iload hx hb dX1_read_13 (lv_at hl 4 rfl) ?_
      refine lv_bipush (v := nI 16) hx hb dX1_read_15 (by decide) ?_
      refine lv_icmp_ge (tgt := 24) hx hb dX1_read_17 (by decide) (fun c17 => ?_) (fun c17 => ?_)
      ·
        rw [q_le (by omega) (by omega)] at c17
        refine lv_lload_n hx hb dX1_read_24 rfl (lv_at hl 2 rfl) ?_
        refine lv_lstore (lv' := [(7, .long v2), (0, .ref d0), (1, .long v1), (3, .long v2), (5, .int (nI (lk (v1, v2) i))), (6, .int (nI i))]) hx hb dX1_read_25 hl (by decide) rfl (fun ls hl => ?_)
        refine lv_aload_n hx hb dX1_read_27 rfl (lv_at hl 1 rfl) ?_
        refine va_get (D := (dC, dI)) (ci := 1) (v := .ref d1) (C := RX1) (T := TX1) (N := 1) hx hb hts iX1 hown hK hP 0 rfl rfl 0 (by decide) f9 (fun _ h9 => h9) rfl dX1_read_28 ?_
        refine lv_iload hx hb dX1_read_31 (lv_at hl 5 rfl) ?_
        refine lv_lload hx hb dX1_read_33 (lv_at hl 0 rfl) ?_
        refine lv_bipush (v := nI 15) hx hb dX1_read_35 (by decide) ?_
        refine lv_iload hx hb dX1_read_37 (lv_at hl 5 rfl) ?_
        refine lv_bipush (v := nI 16) hx hb dX1_read_39 (by decide) ?_
        refine lv_irem hx hb dX1_read_41 (by decide) ?_
        refine st_i (y := nI (i % 16)) (pk_rem (by omega) (by decide) (by decide)) ?_
        refine lv_isub hx hb dX1_read_42 ?_
        refine st_i (y := nI (15 - (i % 16))) (pk_sub (by omega)) ?_
        refine st_calli (va_runS (As := [.long v2, .int (nI (15 - (i % 16)))]) (rest := [.int (nI i), .ref d1]) ⟨hx, hb, hml, hown, hts⟩ (c_Digits_fourBits l dC dI cJ cI  v2 (15 - (i % 16)) (by omega) H.size) (va_cwS 2 hts gX1_read_X1_fourBits rfl rfl rfl (by decide +kernel) ⟨Nat.le_of_ble_eq_true rfl, Nat.le_of_ble_eq_true rfl⟩) (st_preS hK hP hD [] rfl rfl) rfl rfl hl.1 rfl (lv_room (Nat.le_of_ble_eq_true rfl)) dX1_read_43 ⟨Nat.le_of_ble_eq_true rfl, Nat.le_of_ble_eq_true rfl⟩) hP hD hS hA [] [0, 1] (wr := [(d0, .inr (1, [.ref d1])), (d1, .inl (cI, 35, .inl (mkT (fun k => nI (d4 (v1, v2) k)) i dv)))]) rfl rfl (by decide) (by decide) [0, 1] (res := fun _ => [(d0, .inr (1, [.ref d1])), (d1, .inl (cI, 35, .inl (mkT (fun k => nI (d4 (v1, v2) k)) i dv)))]) (fun _ => rfl) (by decide) (fun r_5 _ H locs hu hP hD hS => ?_)
        have hP : va_P (dC, dI) vwCl [(d0, .inr (1, [.ref d1])), (d1, .inl (cI, 35, .inl (mkT (fun k => nI (d4 (v1, v2) k)) i dv)))] H := hP
        have hD : va_D A [(d0, .inr (1, [.ref d1])), (d1, .inl (cI, 35, .inl (mkT (fun k => nI (d4 (v1, v2) k)) i dv)))] := hD
        subst hu
        refine st_i (y := nI (d4 (v1, v2) i)) (congrArg nI (d4_hi c17).symm) ?_
        refine st_iast hx hb hK hP hD hS 1 1 rfl rfl i rfl (by omega) (by omega) dX1_read_46 (fun H locs hP hD hS => ?_)
        have hP : va_P (dC, dI) vwCl [(d0, .inr (1, [.ref d1])), (d1, .inl (cI, 35, .inl (upd (mkT (fun k => nI (d4 (v1, v2) k)) i dv) i (nI (d4 (v1, v2) i)))))] H := hP
        have hD : va_D A [(d0, .inr (1, [.ref d1])), (d1, .inl (cI, 35, .inl (upd (mkT (fun k => nI (d4 (v1, v2) k)) i dv) i (nI (d4 (v1, v2) i)))))] := hD
        refine lv_iload hx hb dX1_read_47 (lv_at hl 4 rfl) ?_
        refine lv_bipush (v := nI 15) hx hb dX1_read_49 (by decide) ?_
        refine lv_aload_n hx hb dX1_read_51 rfl (lv_at hl 1 rfl) ?_
        refine va_get (D := (dC, dI)) (ci := 1) (v := .ref d1) (C := RX1) (T := TX1) (N := 1) hx hb hts iX1 hown hK hP 0 rfl rfl 0 (by decide) f9 (fun _ h9 => h9) rfl dX1_read_52 ?_
        refine lv_iload hx hb dX1_read_55 (lv_at hl 5 rfl) ?_
        refine st_iald hx hb hK hP 1 1 rfl rfl i rfl (by omega) (by omega) dX1_read_57 ?_
        refine st_i (y := nI (d4 (v1, v2) i)) (pk_us) ?_
        have hd4 := d4_lt (v1, v2) i
        refine lv_isub hx hb dX1_read_58 ?_
        refine st_i (y := nI (15 - (d4 (v1, v2) i))) (pk_sub (by omega)) ?_
        refine lv_iadd hx hb dX1_read_59 ?_
        refine st_i (y := nI (lk (v1, v2) i + (15 - (d4 (v1, v2) i)))) (nI_add (lk (v1, v2) i) (15 - (d4 (v1, v2) i))) ?_
        refine st_i (y := nI (lk (v1, v2) (i + 1))) (rfl) ?_
        refine lv_istore (lv' := [(5, .int (nI (lk (v1, v2) (i + 1)))), (7, .long v2), (0, .ref d0), (1, .long v1), (3, .long v2), (6, .int (nI i))]) hx hb dX1_read_60 hl (by decide) rfl (fun ls hl => ?_)
        refine lv_iinc (v := nI (i + 1)) (lv' := [(6, .int (nI (i + 1))), (5, .int (nI (lk (v1, v2) (i + 1)))), (7, .long v2), (0, .ref d0), (1, .long v1), (3, .long v2)]) hx hb dX1_read_62 hl (k := 5) rfl (st_inc i 1 (by decide)) (by decide) rfl (fun ls hl => ?_)
        refine lv_goto (tgt := 6) hx hb dX1_read_65 (by decide) ?_
        have eW_6 : ([(d0, .inr (1, [.ref d1])), (d1, .inl (cI, 35, .inl (upd (mkT (fun k => nI (d4 (v1, v2) k)) i dv) i (nI (d4 (v1, v2) i)))))] : va_W) = [(d0, .inr (1, [.ref d1])), (d1, .inl (cI, 35, .inl (mkT (fun k => nI (d4 (v1, v2) k)) (i + 1) dv)))] := by rw [← mkT_upd]
        have hP : va_P (dC, dI) vwCl [(d0, .inr (1, [.ref d1])), (d1, .inl (cI, 35, .inl (mkT (fun k => nI (d4 (v1, v2) k)) (i + 1) dv)))] H := by rw [← eW_6]; exact hP
        have hD : va_D A [(d0, .inr (1, [.ref d1])), (d1, .inl (cI, 35, .inl (mkT (fun k => nI (d4 (v1, v2) k)) (i + 1) dv)))] := by rw [← eW_6]; exact hD
        exact ih _ _ _ ⟨hP, hD, hS, lv_sub hl [3, 4, 5, 1, 0] rfl⟩
      ·
        rw [q_le (by omega) (by omega)] at c17
        refine lv_lload_n hx hb dX1_read_20 rfl (lv_at hl 1 rfl) ?_
        refine lv_goto (tgt := 25) hx hb dX1_read_21 (by decide) ?_
        refine lv_lstore (lv' := [(7, .long v1), (0, .ref d0), (1, .long v1), (3, .long v2), (5, .int (nI (lk (v1, v2) i))), (6, .int (nI i))]) hx hb dX1_read_25 hl (by decide) rfl (fun ls hl => ?_)
        refine lv_aload_n hx hb dX1_read_27 rfl (lv_at hl 1 rfl) ?_
        refine va_get (D := (dC, dI)) (ci := 1) (v := .ref d1) (C := RX1) (T := TX1) (N := 1) hx hb hts iX1 hown hK hP 0 rfl rfl 0 (by decide) f9 (fun _ h9 => h9) rfl dX1_read_28 ?_
        refine lv_iload hx hb dX1_read_31 (lv_at hl 5 rfl) ?_
        refine lv_lload hx hb dX1_read_33 (lv_at hl 0 rfl) ?_
        refine lv_bipush (v := nI 15) hx hb dX1_read_35 (by decide) ?_
        refine lv_iload hx hb dX1_read_37 (lv_at hl 5 rfl) ?_
        refine lv_bipush (v := nI 16) hx hb dX1_read_39 (by decide) ?_
        refine lv_irem hx hb dX1_read_41 (by decide) ?_
        refine st_i (y := nI (i % 16)) (pk_rem (by omega) (by decide) (by decide)) ?_
        refine lv_isub hx hb dX1_read_42 ?_
        refine st_i (y := nI (15 - (i % 16))) (pk_sub (by omega)) ?_
        refine st_calli (va_runS (As := [.long v1, .int (nI (15 - (i % 16)))]) (rest := [.int (nI i), .ref d1]) ⟨hx, hb, hml, hown, hts⟩ (c_Digits_fourBits l dC dI cJ cI  v1 (15 - (i % 16)) (by omega) H.size) (va_cwS 2 hts gX1_read_X1_fourBits rfl rfl rfl (by decide +kernel) ⟨Nat.le_of_ble_eq_true rfl, Nat.le_of_ble_eq_true rfl⟩) (st_preS hK hP hD [] rfl rfl) rfl rfl hl.1 rfl (lv_room (Nat.le_of_ble_eq_true rfl)) dX1_read_43 ⟨Nat.le_of_ble_eq_true rfl, Nat.le_of_ble_eq_true rfl⟩) hP hD hS hA [] [0, 1] (wr := [(d0, .inr (1, [.ref d1])), (d1, .inl (cI, 35, .inl (mkT (fun k => nI (d4 (v1, v2) k)) i dv)))]) rfl rfl (by decide) (by decide) [0, 1] (res := fun _ => [(d0, .inr (1, [.ref d1])), (d1, .inl (cI, 35, .inl (mkT (fun k => nI (d4 (v1, v2) k)) i dv)))]) (fun _ => rfl) (by decide) (fun r_7 _ H locs hu hP hD hS => ?_)
        have hP : va_P (dC, dI) vwCl [(d0, .inr (1, [.ref d1])), (d1, .inl (cI, 35, .inl (mkT (fun k => nI (d4 (v1, v2) k)) i dv)))] H := hP
        have hD : va_D A [(d0, .inr (1, [.ref d1])), (d1, .inl (cI, 35, .inl (mkT (fun k => nI (d4 (v1, v2) k)) i dv)))] := hD
        subst hu
        refine st_i (y := nI (d4 (v1, v2) i)) (congrArg nI (d4_lo c17).symm) ?_
        refine st_iast hx hb hK hP hD hS 1 1 rfl rfl i rfl (by omega) (by omega) dX1_read_46 (fun H locs hP hD hS => ?_)
        have hP : va_P (dC, dI) vwCl [(d0, .inr (1, [.ref d1])), (d1, .inl (cI, 35, .inl (upd (mkT (fun k => nI (d4 (v1, v2) k)) i dv) i (nI (d4 (v1, v2) i)))))] H := hP
        have hD : va_D A [(d0, .inr (1, [.ref d1])), (d1, .inl (cI, 35, .inl (upd (mkT (fun k => nI (d4 (v1, v2) k)) i dv) i (nI (d4 (v1, v2) i)))))] := hD
        refine lv_iload hx hb dX1_read_47 (lv_at hl 4 rfl) ?_
        refine lv_bipush (v := nI 15) hx hb dX1_read_49 (by decide) ?_
        refine lv_aload_n hx hb dX1_read_51 rfl (lv_at hl 1 rfl) ?_
        refine va_get (D := (dC, dI)) (ci := 1) (v := .ref d1) (C := RX1) (T := TX1) (N := 1) hx hb hts iX1 hown hK hP 0 rfl rfl 0 (by decide) f9 (fun _ h9 => h9) rfl dX1_read_52 ?_
        refine lv_iload hx hb dX1_read_55 (lv_at hl 5 rfl) ?_
        refine st_iald hx hb hK hP 1 1 rfl rfl i rfl (by omega) (by omega) dX1_read_57 ?_
        refine st_i (y := nI (d4 (v1, v2) i)) (pk_us) ?_
        have hd4 := d4_lt (v1, v2) i
        refine lv_isub hx hb dX1_read_58 ?_
        refine st_i (y := nI (15 - (d4 (v1, v2) i))) (pk_sub (by omega)) ?_
        refine lv_iadd hx hb dX1_read_59 ?_
        refine st_i (y := nI (lk (v1, v2) i + (15 - (d4 (v1, v2) i)))) (nI_add (lk (v1, v2) i) (15 - (d4 (v1, v2) i))) ?_
        refine st_i (y := nI (lk (v1, v2) (i + 1))) (rfl) ?_
        refine lv_istore (lv' := [(5, .int (nI (lk (v1, v2) (i + 1)))), (7, .long v1), (0, .ref d0), (1, .long v1), (3, .long v2), (6, .int (nI i))]) hx hb dX1_read_60 hl (by decide) rfl (fun ls hl => ?_)
        refine lv_iinc (v := nI (i + 1)) (lv' := [(6, .int (nI (i + 1))), (5, .int (nI (lk (v1, v2) (i + 1)))), (7, .long v1), (0, .ref d0), (1, .long v1), (3, .long v2)]) hx hb dX1_read_62 hl (k := 5) rfl (st_inc i 1 (by decide)) (by decide) rfl (fun ls hl => ?_)
        refine lv_goto (tgt := 6) hx hb dX1_read_65 (by decide) ?_
        have eW_8 : ([(d0, .inr (1, [.ref d1])), (d1, .inl (cI, 35, .inl (upd (mkT (fun k => nI (d4 (v1, v2) k)) i dv) i (nI (d4 (v1, v2) i)))))] : va_W) = [(d0, .inr (1, [.ref d1])), (d1, .inl (cI, 35, .inl (mkT (fun k => nI (d4 (v1, v2) k)) (i + 1) dv)))] := by rw [← mkT_upd]
        have hP : va_P (dC, dI) vwCl [(d0, .inr (1, [.ref d1])), (d1, .inl (cI, 35, .inl (mkT (fun k => nI (d4 (v1, v2) k)) (i + 1) dv)))] H := by rw [← eW_8]; exact hP
        have hD : va_D A [(d0, .inr (1, [.ref d1])), (d1, .inl (cI, 35, .inl (mkT (fun k => nI (d4 (v1, v2) k)) (i + 1) dv)))] := by rw [← eW_8]; exact hD
        exact ih _ _ _ ⟨hP, hD, hS, lv_sub hl [3, 4, 5, 1, 0] rfl⟩
end
section
set_option maxHeartbeats 4000000 in
set_option maxRecDepth 100000 in
theorem c_Chains_makeStart (l : Launch) (dC : Nat → ClassId) (dI : Nat → Nat → Nat) (cJ cI : ClassId) (c0 e0 h0 k0 r0 r1 : Nat) (pv : Int64 × Int64) (w1 w2 ov : Int64) (xh : Int32) (nn lf ch : Nat) (fv : Nat → Int64) (hlf : lf < 2 ^ 31) (hch : 2 * ch + 1 < nn) (hn : nn < 2 ^ 31) (sz : Nat) : Met l yX0_makeStart wsX0_makeStart ({ frames := 2, cells := 0, slots := 0, locals := 47 }) (va_Pc [.ref c0, .ref k0, .int (nI lf), .int (nI ch), .ref r0] (st_B (dC, dI) vwCl [(cJ, .long), (cI, .int)] [(c0, .inr (0, [.ref e0, .ref h0])), (h0, .inr (2, [.long pv.1, .long pv.2])), (k0, .inr (3, [.long w1, .long w2, .long ov, .int xh])), (r0, .inr (5, [.ref r1])), (r1, .inl (cJ, nn, .inr (.inl (fv))))] sz)) (va_Qv (fun _ : Unit => True) (st_E (dC, dI) vwCl [(cJ, .long), (cI, .int)] (va_A [(c0, .inr (0, [.ref e0, .ref h0])), (h0, .inr (2, [.long pv.1, .long pv.2])), (k0, .inr (3, [.long w1, .long w2, .long ov, .int xh])), (r0, .inr (5, [.ref r1])), (r1, .inl (cJ, nn, .inr (.inl (fv))))] sz) (fun _ => [(c0, .inr (0, [.ref e0, .ref h0])), (h0, .inr (2, [.long ((cs0 w1 w2 lf ch).1), .long ((cs0 w1 w2 lf ch).2)])), (k0, .inr (3, [.long w1, .long w2, .long ov, .int xh])), (r0, .inr (5, [.ref r1])), (r1, .inl (cJ, nn, .inr (.inl (setP fv ch (cs0 w1 w2 lf ch)))))])) (va_A [(c0, .inr (0, [.ref e0, .ref h0])), (h0, .inr (2, [.long pv.1, .long pv.2])), (k0, .inr (3, [.long w1, .long w2, .long ov, .int xh])), (r0, .inr (5, [.ref r1])), (r1, .inl (cJ, nn, .inr (.inl (fv))))] sz)) 0 0 (va_A [(c0, .inr (0, [.ref e0, .ref h0])), (h0, .inr (2, [.long pv.1, .long pv.2])), (k0, .inr (3, [.long w1, .long w2, .long ov, .int xh])), (r0, .inr (5, [.ref r1])), (r1, .inl (cJ, nn, .inr (.inl (fv))))] sz) := by
  refine Met.ofW (cc := cX0_makeStart) (maxL := 5) (ret := none) (by decide) rfl ?_
  intro p e s m args below meth c s₁ B hml hv
  obtain ⟨rfl, hsz, hP, hK, hD0⟩ := hv
  have hx := B.exec
  have hb := B.bytes
  have hr := B.returns
  have hts := atoms_spec (ws := wsX0_makeStart) B.pre
  have hown : s.vm.findClass RX0 = some m.cls := findClass_of_methodNamed B.named
  have hlocks := B.notSynchronized
  subst hsz
  have hD := hD0.self (sz := s.heap.size)
  generalize hAe : va_A [(c0, .inr (0, [.ref e0, .ref h0])), (h0, .inr (2, [.long pv.1, .long pv.2])), (k0, .inr (3, [.long w1, .long w2, .long ov, .int xh])), (r0, .inr (5, [.ref r1])), (r1, .inl (cJ, nn, .inr (.inl (fv))))] s.heap.size = A at hD ⊢
  have hA : ∀ q : Nat, s.heap.size ≤ q → A q := fun q h => by rw [← hAe]; exact Or.inr h
  have hS : va_S A s.heap s.heap [] := va_S.rf
  have hP : va_P (dC, dI) vwCl [(c0, .inr (0, [.ref e0, .ref h0])), (h0, .inr (2, [.long pv.1, .long pv.2])), (k0, .inr (3, [.long w1, .long w2, .long ov, .int xh])), (r0, .inr (5, [.ref r1])), (r1, .inl (cJ, nn, .inr (.inl (fv))))] s.heap := hP
  have hl := lv_entry ([.ref c0, .ref k0, .int (nI lf), .int (nI ch), .ref r0]) (n := 5) (Nat.le_of_ble_eq_true rfl)
  rw [lg_entry_eq]
  generalize (lg_sl ([.ref c0, .ref k0, .int (nI lf), .int (nI ch), .ref r0]) ++ List.replicate (5 - (lg_sl ([.ref c0, .ref k0, .int (nI lf), .int (nI ch), .ref r0])).length) Slot.unset).toArray = ls at hl ⊢
  have iX0 : ∀ w ∈ wsX00, w ∈ wsX0_makeStart := by decide +kernel
  have iX3 : ∀ w ∈ wsX30, w ∈ wsX0_makeStart := by decide +kernel
  have f23 := hts (.fieldLink RX0 23 "LeafSigner$Chains" "hasher" "LLeafSigner$Hasher;") (by decide +kernel)
  have f31 := hts (.fieldLink RX0 31 "LeafSigner$Keys" "one" "J") (by decide +kernel)
  have f41 := hts (.fieldLink RX0 41 "LeafSigner$Keys" "two" "J") (by decide +kernel)
  have hl : lv_has ls 5 [(0, .ref c0), (1, .ref k0), (2, .int (nI lf)), (3, .int (nI ch)), (4, .ref r0)] := hl
  refine lv_aload_n hx hb dX0_makeStart_0 rfl (lv_at hl 0 rfl) ?_
  refine va_get (D := (dC, dI)) (ci := 0) (v := .ref h0) (C := RX0) (T := TX0) (N := 2) hx hb hts iX0 hown hK hP 0 rfl rfl 1 (by decide) f23 (fun _ h9 => h9) rfl dX0_makeStart_1 ?_
  refine lv_iconst (v := nI 1) hx hb dX0_makeStart_4 (by decide) ?_
  refine lv_iconst (v := nI 4) hx hb dX0_makeStart_5 (by decide) ?_
  refine st_callv (va_runV (As := [.int (nI 1), .int (nI 4)]) (rest := []) ⟨hx, hb, hml, hown, hts⟩ (c_Hasher_start l dC dI cJ cI h0 pv (nI 1) (nI 4) (lN 1) (lN 4) (nI_l (by omega)) (nI_l (by omega)) s.heap.size) (cwV 2 hts gX0_makeStart_X2_start rfl rfl rfl (by decide +kernel) ⟨Nat.le_of_ble_eq_true rfl, Nat.le_of_ble_eq_true rfl⟩) (st_preV hK hP hD [1] rfl rfl (ci := 2) (q0 := 0) rfl rfl) rfl rfl hl.1 rfl (lv_room (Nat.le_of_ble_eq_true rfl)) dX0_makeStart_6 ⟨Nat.le_of_ble_eq_true rfl, Nat.le_of_ble_eq_true rfl⟩) hP hD hS hA [1] [0, 2, 3, 4] (wr := [(c0, .inr (0, [.ref e0, .ref h0])), (k0, .inr (3, [.long w1, .long w2, .long ov, .int xh])), (r0, .inr (5, [.ref r1])), (r1, .inl (cJ, nn, .inr (.inl (fv))))]) rfl rfl (by decide) (by decide) [0, 4, 1, 2, 3] (res := fun _ => [(c0, .inr (0, [.ref e0, .ref h0])), (h0, .inr (2, [.long (lN 1), .long (lN 4)])), (k0, .inr (3, [.long w1, .long w2, .long ov, .int xh])), (r0, .inr (5, [.ref r1])), (r1, .inl (cJ, nn, .inr (.inl (fv))))]) (fun _ => rfl) (by decide) (fun  _ H locs hu hP hD hS => ?_)
  have hP : va_P (dC, dI) vwCl [(c0, .inr (0, [.ref e0, .ref h0])), (h0, .inr (2, [.long (lN 1), .long (lN 4)])), (k0, .inr (3, [.long w1, .long w2, .long ov, .int xh])), (r0, .inr (5, [.ref r1])), (r1, .inl (cJ, nn, .inr (.inl (fv))))] H := hP
  have hD : va_D A [(c0, .inr (0, [.ref e0, .ref h0])), (h0, .inr (2, [.long (lN 1), .long (lN 4)])), (k0, .inr (3, [.long w1, .long w2, .long ov, .int xh])), (r0, .inr (5, [.ref r1])), (r1, .inl (cJ, nn, .inr (.inl (fv))))] := hD
  refine lv_aload_n hx hb dX0_makeStart_9 rfl (lv_at hl 0 rfl) ?_
  refine va_get (D := (dC, dI)) (ci := 0) (v := .ref h0) (C := RX0) (T := TX0) (N := 2) hx hb hts iX0 hown hK hP 0 rfl rfl 1 (by decide) f23 (fun _ h9 => h9) rfl dX0_makeStart_10 ?_
  refine lv_aload_n hx hb dX0_makeStart_13 rfl (lv_at hl 1 rfl) ?_
  refine va_get (D := (dC, dI)) (ci := 3) (v := .long w1) (C := RX3) (T := TX3) (N := 4) hx hb hts iX3 hown hK hP 2 rfl rfl 0 (by decide) f31 (fun _ h9 => h9) rfl dX0_makeStart_14 ?_
  refine st_callv (va_runV (As := [.long w1]) (rest := []) ⟨hx, hb, hml, hown, hts⟩ (c_Hasher_add l dC dI cJ cI h0 (lN 1, lN 4) w1  H.size) (cwV 1 hts gX0_makeStart_X2_add rfl rfl rfl (by decide +kernel) ⟨Nat.le_of_ble_eq_true rfl, Nat.le_of_ble_eq_true rfl⟩) (st_preV hK hP hD [1] rfl rfl (ci := 2) (q0 := 0) rfl rfl) rfl rfl hl.1 rfl (lv_room (Nat.le_of_ble_eq_true rfl)) dX0_makeStart_17 ⟨Nat.le_of_ble_eq_true rfl, Nat.le_of_ble_eq_true rfl⟩) hP hD hS hA [1] [0, 2, 3, 4] (wr := [(c0, .inr (0, [.ref e0, .ref h0])), (k0, .inr (3, [.long w1, .long w2, .long ov, .int xh])), (r0, .inr (5, [.ref r1])), (r1, .inl (cJ, nn, .inr (.inl (fv))))]) rfl rfl (by decide) (by decide) [0, 4, 1, 2, 3] (res := fun _ => [(c0, .inr (0, [.ref e0, .ref h0])), (h0, .inr (2, [.long ((ha (lN 1, lN 4) w1).1), .long ((ha (lN 1, lN 4) w1).2)])), (k0, .inr (3, [.long w1, .long w2, .long ov, .int xh])), (r0, .inr (5, [.ref r1])), (r1, .inl (cJ, nn, .inr (.inl (fv))))]) (fun _ => rfl) (by decide) (fun  _ H locs hu hP hD hS => ?_)
  have hP : va_P (dC, dI) vwCl [(c0, .inr (0, [.ref e0, .ref h0])), (h0, .inr (2, [.long ((ha (lN 1, lN 4) w1).1), .long ((ha (lN 1, lN 4) w1).2)])), (k0, .inr (3, [.long w1, .long w2, .long ov, .int xh])), (r0, .inr (5, [.ref r1])), (r1, .inl (cJ, nn, .inr (.inl (fv))))] H := hP
  have hD : va_D A [(c0, .inr (0, [.ref e0, .ref h0])), (h0, .inr (2, [.long ((ha (lN 1, lN 4) w1).1), .long ((ha (lN 1, lN 4) w1).2)])), (k0, .inr (3, [.long w1, .long w2, .long ov, .int xh])), (r0, .inr (5, [.ref r1])), (r1, .inl (cJ, nn, .inr (.inl (fv))))] := hD
  refine lv_aload_n hx hb dX0_makeStart_20 rfl (lv_at hl 0 rfl) ?_
  refine va_get (D := (dC, dI)) (ci := 0) (v := .ref h0) (C := RX0) (T := TX0) (N := 2) hx hb hts iX0 hown hK hP 0 rfl rfl 1 (by decide) f23 (fun _ h9 => h9) rfl dX0_makeStart_21 ?_
  refine lv_aload_n hx hb dX0_makeStart_24 rfl (lv_at hl 1 rfl) ?_
  refine va_get (D := (dC, dI)) (ci := 3) (v := .long w2) (C := RX3) (T := TX3) (N := 4) hx hb hts iX3 hown hK hP 2 rfl rfl 1 (by decide) f41 (fun _ h9 => h9) rfl dX0_makeStart_25 ?_
  refine st_callv (va_runV (As := [.long w2]) (rest := []) ⟨hx, hb, hml, hown, hts⟩ (c_Hasher_add l dC dI cJ cI h0 (ha (lN 1, lN 4) w1) w2  H.size) (cwV 1 hts gX0_makeStart_X2_add rfl rfl rfl (by decide +kernel) ⟨Nat.le_of_ble_eq_true rfl, Nat.le_of_ble_eq_true rfl⟩) (st_preV hK hP hD [1] rfl rfl (ci := 2) (q0 := 0) rfl rfl) rfl rfl hl.1 rfl (lv_room (Nat.le_of_ble_eq_true rfl)) dX0_makeStart_28 ⟨Nat.le_of_ble_eq_true rfl, Nat.le_of_ble_eq_true rfl⟩) hP hD hS hA [1] [0, 2, 3, 4] (wr := [(c0, .inr (0, [.ref e0, .ref h0])), (k0, .inr (3, [.long w1, .long w2, .long ov, .int xh])), (r0, .inr (5, [.ref r1])), (r1, .inl (cJ, nn, .inr (.inl (fv))))]) rfl rfl (by decide) (by decide) [0, 4, 1, 2, 3] (res := fun _ => [(c0, .inr (0, [.ref e0, .ref h0])), (h0, .inr (2, [.long ((ha (ha (lN 1, lN 4) w1) w2).1), .long ((ha (ha (lN 1, lN 4) w1) w2).2)])), (k0, .inr (3, [.long w1, .long w2, .long ov, .int xh])), (r0, .inr (5, [.ref r1])), (r1, .inl (cJ, nn, .inr (.inl (fv))))]) (fun _ => rfl) (by decide) (fun  _ H locs hu hP hD hS => ?_)
  have hP : va_P (dC, dI) vwCl [(c0, .inr (0, [.ref e0, .ref h0])), (h0, .inr (2, [.long ((ha (ha (lN 1, lN 4) w1) w2).1), .long ((ha (ha (lN 1, lN 4) w1) w2).2)])), (k0, .inr (3, [.long w1, .long w2, .long ov, .int xh])), (r0, .inr (5, [.ref r1])), (r1, .inl (cJ, nn, .inr (.inl (fv))))] H := hP
  have hD : va_D A [(c0, .inr (0, [.ref e0, .ref h0])), (h0, .inr (2, [.long ((ha (ha (lN 1, lN 4) w1) w2).1), .long ((ha (ha (lN 1, lN 4) w1) w2).2)])), (k0, .inr (3, [.long w1, .long w2, .long ov, .int xh])), (r0, .inr (5, [.ref r1])), (r1, .inl (cJ, nn, .inr (.inl (fv))))] := hD
  refine lv_aload_n hx hb dX0_makeStart_31 rfl (lv_at hl 0 rfl) ?_
  refine va_get (D := (dC, dI)) (ci := 0) (v := .ref h0) (C := RX0) (T := TX0) (N := 2) hx hb hts iX0 hown hK hP 0 rfl rfl 1 (by decide) f23 (fun _ h9 => h9) rfl dX0_makeStart_32 ?_
  refine lv_iload_n hx hb dX0_makeStart_35 rfl (lv_at hl 2 rfl) ?_
  refine lv_i2l (v := lN lf) hx hb dX0_makeStart_36 (nI_l (by omega)) ?_
  refine st_callv (va_runV (As := [.long (lN lf)]) (rest := []) ⟨hx, hb, hml, hown, hts⟩ (c_Hasher_add l dC dI cJ cI h0 (ha (ha (lN 1, lN 4) w1) w2) (lN lf)  H.size) (cwV 1 hts gX0_makeStart_X2_add rfl rfl rfl (by decide +kernel) ⟨Nat.le_of_ble_eq_true rfl, Nat.le_of_ble_eq_true rfl⟩) (st_preV hK hP hD [1] rfl rfl (ci := 2) (q0 := 0) rfl rfl) rfl rfl hl.1 rfl (lv_room (Nat.le_of_ble_eq_true rfl)) dX0_makeStart_37 ⟨Nat.le_of_ble_eq_true rfl, Nat.le_of_ble_eq_true rfl⟩) hP hD hS hA [1] [0, 2, 3, 4] (wr := [(c0, .inr (0, [.ref e0, .ref h0])), (k0, .inr (3, [.long w1, .long w2, .long ov, .int xh])), (r0, .inr (5, [.ref r1])), (r1, .inl (cJ, nn, .inr (.inl (fv))))]) rfl rfl (by decide) (by decide) [0, 4, 1, 2, 3] (res := fun _ => [(c0, .inr (0, [.ref e0, .ref h0])), (h0, .inr (2, [.long ((ha (ha (ha (lN 1, lN 4) w1) w2) (lN lf)).1), .long ((ha (ha (ha (lN 1, lN 4) w1) w2) (lN lf)).2)])), (k0, .inr (3, [.long w1, .long w2, .long ov, .int xh])), (r0, .inr (5, [.ref r1])), (r1, .inl (cJ, nn, .inr (.inl (fv))))]) (fun _ => rfl) (by decide) (fun  _ H locs hu hP hD hS => ?_)
  have hP : va_P (dC, dI) vwCl [(c0, .inr (0, [.ref e0, .ref h0])), (h0, .inr (2, [.long ((ha (ha (ha (lN 1, lN 4) w1) w2) (lN lf)).1), .long ((ha (ha (ha (lN 1, lN 4) w1) w2) (lN lf)).2)])), (k0, .inr (3, [.long w1, .long w2, .long ov, .int xh])), (r0, .inr (5, [.ref r1])), (r1, .inl (cJ, nn, .inr (.inl (fv))))] H := hP
  have hD : va_D A [(c0, .inr (0, [.ref e0, .ref h0])), (h0, .inr (2, [.long ((ha (ha (ha (lN 1, lN 4) w1) w2) (lN lf)).1), .long ((ha (ha (ha (lN 1, lN 4) w1) w2) (lN lf)).2)])), (k0, .inr (3, [.long w1, .long w2, .long ov, .int xh])), (r0, .inr (5, [.ref r1])), (r1, .inl (cJ, nn, .inr (.inl (fv))))] := hD
  refine lv_aload_n hx hb dX0_makeStart_40 rfl (lv_at hl 0 rfl) ?_
  refine va_get (D := (dC, dI)) (ci := 0) (v := .ref h0) (C := RX0) (T := TX0) (N := 2) hx hb hts iX0 hown hK hP 0 rfl rfl 1 (by decide) f23 (fun _ h9 => h9) rfl dX0_makeStart_41 ?_
  refine lv_iload_n hx hb dX0_makeStart_44 rfl (lv_at hl 3 rfl) ?_
  refine lv_i2l (v := lN ch) hx hb dX0_makeStart_45 (nI_l (by omega)) ?_
  refine st_callv (va_runV (As := [.long (lN ch)]) (rest := []) ⟨hx, hb, hml, hown, hts⟩ (c_Hasher_add l dC dI cJ cI h0 (ha (ha (ha (lN 1, lN 4) w1) w2) (lN lf)) (lN ch)  H.size) (cwV 1 hts gX0_makeStart_X2_add rfl rfl rfl (by decide +kernel) ⟨Nat.le_of_ble_eq_true rfl, Nat.le_of_ble_eq_true rfl⟩) (st_preV hK hP hD [1] rfl rfl (ci := 2) (q0 := 0) rfl rfl) rfl rfl hl.1 rfl (lv_room (Nat.le_of_ble_eq_true rfl)) dX0_makeStart_46 ⟨Nat.le_of_ble_eq_true rfl, Nat.le_of_ble_eq_true rfl⟩) hP hD hS hA [1] [0, 2, 3, 4] (wr := [(c0, .inr (0, [.ref e0, .ref h0])), (k0, .inr (3, [.long w1, .long w2, .long ov, .int xh])), (r0, .inr (5, [.ref r1])), (r1, .inl (cJ, nn, .inr (.inl (fv))))]) rfl rfl (by decide) (by decide) [0, 4, 1, 2, 3] (res := fun _ => [(c0, .inr (0, [.ref e0, .ref h0])), (h0, .inr (2, [.long ((ha (ha (ha (ha (lN 1, lN 4) w1) w2) (lN lf)) (lN ch)).1), .long ((ha (ha (ha (ha (lN 1, lN 4) w1) w2) (lN lf)) (lN ch)).2)])), (k0, .inr (3, [.long w1, .long w2, .long ov, .int xh])), (r0, .inr (5, [.ref r1])), (r1, .inl (cJ, nn, .inr (.inl (fv))))]) (fun _ => rfl) (by decide) (fun  _ H locs hu hP hD hS => ?_)
  have hP : va_P (dC, dI) vwCl [(c0, .inr (0, [.ref e0, .ref h0])), (h0, .inr (2, [.long ((ha (ha (ha (ha (lN 1, lN 4) w1) w2) (lN lf)) (lN ch)).1), .long ((ha (ha (ha (ha (lN 1, lN 4) w1) w2) (lN lf)) (lN ch)).2)])), (k0, .inr (3, [.long w1, .long w2, .long ov, .int xh])), (r0, .inr (5, [.ref r1])), (r1, .inl (cJ, nn, .inr (.inl (fv))))] H := hP
  have hD : va_D A [(c0, .inr (0, [.ref e0, .ref h0])), (h0, .inr (2, [.long ((ha (ha (ha (ha (lN 1, lN 4) w1) w2) (lN lf)) (lN ch)).1), .long ((ha (ha (ha (ha (lN 1, lN 4) w1) w2) (lN lf)) (lN ch)).2)])), (k0, .inr (3, [.long w1, .long w2, .long ov, .int xh])), (r0, .inr (5, [.ref r1])), (r1, .inl (cJ, nn, .inr (.inl (fv))))] := hD
  refine lv_aload_n hx hb dX0_makeStart_49 rfl (lv_at hl 0 rfl) ?_
  refine va_get (D := (dC, dI)) (ci := 0) (v := .ref h0) (C := RX0) (T := TX0) (N := 2) hx hb hts iX0 hown hK hP 0 rfl rfl 1 (by decide) f23 (fun _ h9 => h9) rfl dX0_makeStart_50 ?_
  refine lv_aload hx hb dX0_makeStart_53 (lv_at hl 4 rfl) ?_
  refine lv_iload_n hx hb dX0_makeStart_55 rfl (lv_at hl 3 rfl) ?_
  refine st_callv (va_runV (As := [.ref r0, .int (nI ch)]) (rest := []) ⟨hx, hb, hml, hown, hts⟩ (c_Hasher_giveTo l dC dI cJ cI h0 r0 r1 (ha (ha (ha (ha (lN 1, lN 4) w1) w2) (lN lf)) (lN ch)) nn fv ch (by omega) (by omega) H.size) (cwV 2 hts gX0_makeStart_X2_giveTo rfl rfl rfl (by decide +kernel) ⟨Nat.le_of_ble_eq_true rfl, Nat.le_of_ble_eq_true rfl⟩) (st_preV hK hP hD [1, 3, 4] rfl rfl (ci := 2) (q0 := 0) rfl rfl) rfl rfl hl.1 rfl (lv_room (Nat.le_of_ble_eq_true rfl)) dX0_makeStart_56 ⟨Nat.le_of_ble_eq_true rfl, Nat.le_of_ble_eq_true rfl⟩) hP hD hS hA [1, 3, 4] [0, 2] (wr := [(c0, .inr (0, [.ref e0, .ref h0])), (k0, .inr (3, [.long w1, .long w2, .long ov, .int xh]))]) rfl rfl (by decide) (by decide) [0, 2, 1, 3, 4] (res := fun _ => [(c0, .inr (0, [.ref e0, .ref h0])), (h0, .inr (2, [.long ((ha (ha (ha (ha (lN 1, lN 4) w1) w2) (lN lf)) (lN ch)).1), .long ((ha (ha (ha (ha (lN 1, lN 4) w1) w2) (lN lf)) (lN ch)).2)])), (k0, .inr (3, [.long w1, .long w2, .long ov, .int xh])), (r0, .inr (5, [.ref r1])), (r1, .inl (cJ, nn, .inr (.inl (setP fv ch (ha (ha (ha (ha (lN 1, lN 4) w1) w2) (lN lf)) (lN ch))))))]) (fun _ => rfl) (by decide) (fun  _ H locs hu hP hD hS => ?_)
  have hP : va_P (dC, dI) vwCl [(c0, .inr (0, [.ref e0, .ref h0])), (h0, .inr (2, [.long ((ha (ha (ha (ha (lN 1, lN 4) w1) w2) (lN lf)) (lN ch)).1), .long ((ha (ha (ha (ha (lN 1, lN 4) w1) w2) (lN lf)) (lN ch)).2)])), (k0, .inr (3, [.long w1, .long w2, .long ov, .int xh])), (r0, .inr (5, [.ref r1])), (r1, .inl (cJ, nn, .inr (.inl (setP fv ch (ha (ha (ha (ha (lN 1, lN 4) w1) w2) (lN lf)) (lN ch))))))] H := hP
  have hD : va_D A [(c0, .inr (0, [.ref e0, .ref h0])), (h0, .inr (2, [.long ((ha (ha (ha (ha (lN 1, lN 4) w1) w2) (lN lf)) (lN ch)).1), .long ((ha (ha (ha (ha (lN 1, lN 4) w1) w2) (lN lf)) (lN ch)).2)])), (k0, .inr (3, [.long w1, .long w2, .long ov, .int xh])), (r0, .inr (5, [.ref r1])), (r1, .inl (cJ, nn, .inr (.inl (setP fv ch (ha (ha (ha (ha (lN 1, lN 4) w1) w2) (lN lf)) (lN ch))))))] := hD
  have eW_1 : ([(c0, .inr (0, [.ref e0, .ref h0])), (h0, .inr (2, [.long ((ha (ha (ha (ha (lN 1, lN 4) w1) w2) (lN lf)) (lN ch)).1), .long ((ha (ha (ha (ha (lN 1, lN 4) w1) w2) (lN lf)) (lN ch)).2)])), (k0, .inr (3, [.long w1, .long w2, .long ov, .int xh])), (r0, .inr (5, [.ref r1])), (r1, .inl (cJ, nn, .inr (.inl (setP fv ch (ha (ha (ha (ha (lN 1, lN 4) w1) w2) (lN lf)) (lN ch))))))] : va_W) = [(c0, .inr (0, [.ref e0, .ref h0])), (h0, .inr (2, [.long ((cs0 w1 w2 lf ch).1), .long ((cs0 w1 w2 lf ch).2)])), (k0, .inr (3, [.long w1, .long w2, .long ov, .int xh])), (r0, .inr (5, [.ref r1])), (r1, .inl (cJ, nn, .inr (.inl (setP fv ch (cs0 w1 w2 lf ch)))))] := rfl
  have hP : va_P (dC, dI) vwCl [(c0, .inr (0, [.ref e0, .ref h0])), (h0, .inr (2, [.long ((cs0 w1 w2 lf ch).1), .long ((cs0 w1 w2 lf ch).2)])), (k0, .inr (3, [.long w1, .long w2, .long ov, .int xh])), (r0, .inr (5, [.ref r1])), (r1, .inl (cJ, nn, .inr (.inl (setP fv ch (cs0 w1 w2 lf ch)))))] H := by rw [← eW_1]; exact hP
  have hD : va_D A [(c0, .inr (0, [.ref e0, .ref h0])), (h0, .inr (2, [.long ((cs0 w1 w2 lf ch).1), .long ((cs0 w1 w2 lf ch).2)])), (k0, .inr (3, [.long w1, .long w2, .long ov, .int xh])), (r0, .inr (5, [.ref r1])), (r1, .inl (cJ, nn, .inr (.inl (setP fv ch (cs0 w1 w2 lf ch)))))] := by rw [← eW_1]; exact hD
  exact W.vret hx hb hr (fun t ht hW => ⟨⟨(), rfl, trivial, by rw [ht]; exact hP, va_K.moved hW.alike hK, hD⟩, hS.F ht⟩) hS.2.2 dX0_makeStart_59

set_option maxHeartbeats 4000000 in
set_option maxRecDepth 100000 in
theorem c_Chains_carry (l : Launch) (dC : Nat → ClassId) (dI : Nat → Nat → Nat) (cJ cI : ClassId) (c0 e0 h0 r0 r1 : Nat) (pv : Int64 × Int64) (ov : Int64) (nn lf ch fm tt : Nat) (fv : Nat → Int64) (hlf : lf < 2 ^ 31) (hch : 2 * ch + 1 < nn) (hn : nn < 2 ^ 31) (hft : fm ≤ tt) (htt : tt < 2 ^ 31) (sz : Nat) : Met l yX0_carry wsX0_carry ({ frames := 3, cells := 0, slots := 0, locals := 69 }) (va_Pc [.ref c0, .long ov, .int (nI lf), .int (nI ch), .int (nI fm), .int (nI tt), .ref r0] (st_B (dC, dI) vwCl [(cJ, .long), (cI, .int)] [(c0, .inr (0, [.ref e0, .ref h0])), (h0, .inr (2, [.long pv.1, .long pv.2])), (r0, .inr (5, [.ref r1])), (r1, .inl (cJ, nn, .inr (.inl (fv))))] sz)) (va_Qv (fun u : (Int64 × Int64) => True) (st_E (dC, dI) vwCl [(cJ, .long), (cI, .int)] (va_A [(c0, .inr (0, [.ref e0, .ref h0])), (h0, .inr (2, [.long pv.1, .long pv.2])), (r0, .inr (5, [.ref r1])), (r1, .inl (cJ, nn, .inr (.inl (fv))))] sz) (fun u => [(c0, .inr (0, [.ref e0, .ref h0])), (h0, .inr (2, [.long u.1, .long u.2])), (r0, .inr (5, [.ref r1])), (r1, .inl (cJ, nn, .inr (.inl (setP fv ch (cry ov lf ch (fv (2 * ch), fv (2 * ch + 1)) fm (tt - fm))))))])) (va_A [(c0, .inr (0, [.ref e0, .ref h0])), (h0, .inr (2, [.long pv.1, .long pv.2])), (r0, .inr (5, [.ref r1])), (r1, .inl (cJ, nn, .inr (.inl (fv))))] sz)) 0 0 (va_A [(c0, .inr (0, [.ref e0, .ref h0])), (h0, .inr (2, [.long pv.1, .long pv.2])), (r0, .inr (5, [.ref r1])), (r1, .inl (cJ, nn, .inr (.inl (fv))))] sz) := by
  refine Met.ofW (cc := cX0_carry) (maxL := 9) (ret := none) (by decide) rfl ?_
  intro p e s m args below meth c s₁ B hml hv
  obtain ⟨rfl, hsz, hP, hK, hD0⟩ := hv
  have hx := B.exec
  have hb := B.bytes
  have hr := B.returns
  have hts := atoms_spec (ws := wsX0_carry) B.pre
  have hown : s.vm.findClass RX0 = some m.cls := findClass_of_methodNamed B.named
  have hlocks := B.notSynchronized
  subst hsz
  have hD := hD0.self (sz := s.heap.size)
  generalize hAe : va_A [(c0, .inr (0, [.ref e0, .ref h0])), (h0, .inr (2, [.long pv.1, .long pv.2])), (r0, .inr (5, [.ref r1])), (r1, .inl (cJ, nn, .inr (.inl (fv))))] s.heap.size = A at hD ⊢
  have hA : ∀ q : Nat, s.heap.size ≤ q → A q := fun q h => by rw [← hAe]; exact Or.inr h
  have hS : va_S A s.heap s.heap [] := va_S.rf
  have hP : va_P (dC, dI) vwCl [(c0, .inr (0, [.ref e0, .ref h0])), (h0, .inr (2, [.long pv.1, .long pv.2])), (r0, .inr (5, [.ref r1])), (r1, .inl (cJ, nn, .inr (.inl (fv))))] s.heap := hP
  have hl := lv_entry ([.ref c0, .long ov, .int (nI lf), .int (nI ch), .int (nI fm), .int (nI tt), .ref r0]) (n := 9) (Nat.le_of_ble_eq_true rfl)
  rw [lg_entry_eq]
  generalize (lg_sl ([.ref c0, .long ov, .int (nI lf), .int (nI ch), .int (nI fm), .int (nI tt), .ref r0]) ++ List.replicate (9 - (lg_sl ([.ref c0, .long ov, .int (nI lf), .int (nI ch), .int (nI fm), .int (nI tt), .ref r0])).length) Slot.unset).toArray = ls at hl ⊢
  have iX0 : ∀ w ∈ wsX00, w ∈ wsX0_carry := by decide +kernel
  have f23 := hts (.fieldLink RX0 23 "LeafSigner$Chains" "hasher" "LLeafSigner$Hasher;") (by decide +kernel)
  have hl : lv_has ls 9 [(0, .ref c0), (1, .long ov), (3, .int (nI lf)), (4, .int (nI ch)), (5, .int (nI fm)), (6, .int (nI tt)), (7, .ref r0)] := hl
  refine lv_iload hx hb dX0_carry_0 (lv_at hl 4 rfl) ?_
  refine lv_istore (lv' := [(8, .int (nI fm)), (0, .ref c0), (1, .long ov), (3, .int (nI lf)), (4, .int (nI ch)), (5, .int (nI fm)), (6, .int (nI tt)), (7, .ref r0)]) hx hb dX0_carry_2 hl (by decide) rfl (fun ls hl => ?_)
  have eW_1 : ([(c0, .inr (0, [.ref e0, .ref h0])), (h0, .inr (2, [.long pv.1, .long pv.2])), (r0, .inr (5, [.ref r1])), (r1, .inl (cJ, nn, .inr (.inl (fv))))] : va_W) = [(c0, .inr (0, [.ref e0, .ref h0])), (h0, .inr (2, [.long pv.1, .long pv.2])), (r0, .inr (5, [.ref r1])), (r1, .inl (cJ, nn, .inr (.inl (setP fv ch (cry ov lf ch (fv (2 * ch), fv (2 * ch + 1)) fm (fm - fm))))))] := by rw [Nat.sub_self]; show _ = _; rw [show cry ov lf ch (fv (2 * ch), fv (2 * ch + 1)) fm 0 = (fv (2 * ch), fv (2 * ch + 1)) from rfl, setP_self]
  have hP : va_P (dC, dI) vwCl [(c0, .inr (0, [.ref e0, .ref h0])), (h0, .inr (2, [.long pv.1, .long pv.2])), (r0, .inr (5, [.ref r1])), (r1, .inl (cJ, nn, .inr (.inl (setP fv ch (cry ov lf ch (fv (2 * ch), fv (2 * ch + 1)) fm (fm - fm))))))] s.heap := by rw [← eW_1]; exact hP
  have hD : va_D A [(c0, .inr (0, [.ref e0, .ref h0])), (h0, .inr (2, [.long pv.1, .long pv.2])), (r0, .inr (5, [.ref r1])), (r1, .inl (cJ, nn, .inr (.inl (setP fv ch (cry ov lf ch (fv (2 * ch), fv (2 * ch + 1)) fm (fm - fm))))))] := by rw [← eW_1]; exact hD
  refine st_loop (I := fun i H locs ls => ∃ (gp : Int64 × Int64), (fm ≤ i) ∧ va_P (dC, dI) vwCl [(c0, .inr (0, [.ref e0, .ref h0])), (h0, .inr (2, [.long gp.1, .long gp.2])), (r0, .inr (5, [.ref r1])), (r1, .inl (cJ, nn, .inr (.inl (setP fv ch (cry ov lf ch (fv (2 * ch), fv (2 * ch + 1)) fm (i - fm))))))] H ∧ va_D A [(c0, .inr (0, [.ref e0, .ref h0])), (h0, .inr (2, [.long gp.1, .long gp.2])), (r0, .inr (5, [.ref r1])), (r1, .inl (cJ, nn, .inr (.inl (setP fv ch (cry ov lf ch (fv (2 * ch), fv (2 * ch + 1)) fm (i - fm))))))] ∧ va_S A s.heap H locs ∧ lv_has ls 9 [(0, .ref c0), (1, .long ov), (3, .int (nI lf)), (4, .int (nI ch)), (6, .int (nI tt)), (7, .ref r0), (8, .int (nI i))]) fm tt hft ⟨pv, (Nat.le_refl _), hP, hD, hS, lv_sub hl [1, 2, 3, 4, 6, 7, 0] rfl⟩ (fun H locs ls hI => ?_) (fun i H locs ls hi hI ih => ?_)
  ·
    obtain ⟨gp, hif, hP, hD, hS, hl⟩ := hI
    have hP : va_P (dC, dI) vwCl [(c0, .inr (0, [.ref e0, .ref h0])), (h0, .inr (2, [.long gp.1, .long gp.2])), (r0, .inr (5, [.ref r1])), (r1, .inl (cJ, nn, .inr (.inl (setP fv ch (cry ov lf ch (fv (2 * ch), fv (2 * ch + 1)) fm (tt - fm))))))] H := hP
    have hD : va_D A [(c0, .inr (0, [.ref e0, .ref h0])), (h0, .inr (2, [.long gp.1, .long gp.2])), (r0, .inr (5, [.ref r1])), (r1, .inl (cJ, nn, .inr (.inl (setP fv ch (cry ov lf ch (fv (2 * ch), fv (2 * ch + 1)) fm (tt - fm))))))] := hD
    have hl : lv_has ls 9 [(0, .ref c0), (1, .long ov), (3, .int (nI lf)), (4, .int (nI ch)), (6, .int (nI tt)), (7, .ref r0), (8, .int (nI tt))] := hl
    refine lv_iload hx hb dX0_carry_4 (lv_at hl 6 rfl) ?_
    refine lv_iload hx hb dX0_carry_6 (lv_at hl 4 rfl) ?_
    refine lv_icmp_ge (tgt := 86) hx hb dX0_carry_8 (by decide) (fun c8 => ?_) (fun c8 => ?_)
    ·
      rw [q_le (by omega) (by omega)] at c8
      exact W.vret hx hb hr (fun t ht hW => ⟨⟨gp, rfl, trivial, by rw [ht]; exact hP, va_K.moved hW.alike hK, hD⟩, hS.F ht⟩) hS.2.2 dX0_carry_86
    ·
      rw [q_le (by omega) (by omega)] at c8
      exact absurd c8 (by omega)
  ·
    obtain ⟨gp, hif, hP, hD, hS, hl⟩ := hI
    have hP : va_P (dC, dI) vwCl [(c0, .inr (0, [.ref e0, .ref h0])), (h0, .inr (2, [.long gp.1, .long gp.2])), (r0, .inr (5, [.ref r1])), (r1, .inl (cJ, nn, .inr (.inl (setP fv ch (cry ov lf ch (fv (2 * ch), fv (2 * ch + 1)) fm (i - fm))))))] H := hP
    have hD : va_D A [(c0, .inr (0, [.ref e0, .ref h0])), (h0, .inr (2, [.long gp.1, .long gp.2])), (r0, .inr (5, [.ref r1])), (r1, .inl (cJ, nn, .inr (.inl (setP fv ch (cry ov lf ch (fv (2 * ch), fv (2 * ch + 1)) fm (i - fm))))))] := hD
    have hl : lv_has ls 9 [(0, .ref c0), (1, .long ov), (3, .int (nI lf)), (4, .int (nI ch)), (6, .int (nI tt)), (7, .ref r0), (8, .int (nI i))] := hl
    refine lv_iload hx hb dX0_carry_4 (lv_at hl 6 rfl) ?_
    refine lv_iload hx hb dX0_carry_6 (lv_at hl 4 rfl) ?_
    refine lv_icmp_ge (tgt := 86) hx hb dX0_carry_8 (by decide) (fun c8 => ?_) (fun c8 => ?_)
    ·
      rw [q_le (by omega) (by omega)] at c8
      exact absurd c8 (by omega)
    ·
      rw [q_le (by omega) (by omega)] at c8
      refine lv_aload_n hx hb dX0_carry_11 rfl (lv_at hl 0 rfl) ?_
      refine va_get (D := (dC, dI)) (ci := 0) (v := .ref h0) (C := RX0) (T := TX0) (N := 2) hx hb hts iX0 hown hK hP 0 rfl rfl 1 (by decide) f23 (fun _ h9 => h9) rfl dX0_carry_12 ?_
      refine lv_iconst (v := nI 2) hx hb dX0_carry_15 (by decide) ?_
      refine lv_bipush (v := nI 6) hx hb dX0_carry_16 (by decide) ?_
      refine st_callv (va_runV (As := [.int (nI 2), .int (nI 6)]) (rest := []) ⟨hx, hb, hml, hown, hts⟩ (c_Hasher_start l dC dI cJ cI h0 gp (nI 2) (nI 6) (lN 2) (lN 6) (nI_l (by omega)) (nI_l (by omega)) H.size) (cwV 2 hts gX0_carry_X2_start rfl rfl rfl (by decide +kernel) ⟨Nat.le_of_ble_eq_true rfl, Nat.le_of_ble_eq_true rfl⟩) (st_preV hK hP hD [1] rfl rfl (ci := 2) (q0 := 0) rfl rfl) rfl rfl hl.1 rfl (lv_room (Nat.le_of_ble_eq_true rfl)) dX0_carry_18 ⟨Nat.le_of_ble_eq_true rfl, Nat.le_of_ble_eq_true rfl⟩) hP hD hS hA [1] [0, 2, 3] (wr := [(c0, .inr (0, [.ref e0, .ref h0])), (r0, .inr (5, [.ref r1])), (r1, .inl (cJ, nn, .inr (.inl (setP fv ch (cry ov lf ch (fv (2 * ch), fv (2 * ch + 1)) fm (i - fm))))))]) rfl rfl (by decide) (by decide) [0, 3, 1, 2] (res := fun _ => [(c0, .inr (0, [.ref e0, .ref h0])), (h0, .inr (2, [.long (lN 2), .long (lN 6)])), (r0, .inr (5, [.ref r1])), (r1, .inl (cJ, nn, .inr (.inl (setP fv ch (cry ov lf ch (fv (2 * ch), fv (2 * ch + 1)) fm (i - fm))))))]) (fun _ => rfl) (by decide) (fun  _ H locs hu hP hD hS => ?_)
      have hP : va_P (dC, dI) vwCl [(c0, .inr (0, [.ref e0, .ref h0])), (h0, .inr (2, [.long (lN 2), .long (lN 6)])), (r0, .inr (5, [.ref r1])), (r1, .inl (cJ, nn, .inr (.inl (setP fv ch (cry ov lf ch (fv (2 * ch), fv (2 * ch + 1)) fm (i - fm))))))] H := hP
      have hD : va_D A [(c0, .inr (0, [.ref e0, .ref h0])), (h0, .inr (2, [.long (lN 2), .long (lN 6)])), (r0, .inr (5, [.ref r1])), (r1, .inl (cJ, nn, .inr (.inl (setP fv ch (cry ov lf ch (fv (2 * ch), fv (2 * ch + 1)) fm (i - fm))))))] := hD
      refine lv_aload_n hx hb dX0_carry_21 rfl (lv_at hl 0 rfl) ?_
      refine va_get (D := (dC, dI)) (ci := 0) (v := .ref h0) (C := RX0) (T := TX0) (N := 2) hx hb hts iX0 hown hK hP 0 rfl rfl 1 (by decide) f23 (fun _ h9 => h9) rfl dX0_carry_22 ?_
      refine lv_lload_n hx hb dX0_carry_25 rfl (lv_at hl 1 rfl) ?_
      refine st_callv (va_runV (As := [.long ov]) (rest := []) ⟨hx, hb, hml, hown, hts⟩ (c_Hasher_add l dC dI cJ cI h0 (lN 2, lN 6) ov  H.size) (cwV 1 hts gX0_carry_X2_add rfl rfl rfl (by decide +kernel) ⟨Nat.le_of_ble_eq_true rfl, Nat.le_of_ble_eq_true rfl⟩) (st_preV hK hP hD [1] rfl rfl (ci := 2) (q0 := 0) rfl rfl) rfl rfl hl.1 rfl (lv_room (Nat.le_of_ble_eq_true rfl)) dX0_carry_26 ⟨Nat.le_of_ble_eq_true rfl, Nat.le_of_ble_eq_true rfl⟩) hP hD hS hA [1] [0, 2, 3] (wr := [(c0, .inr (0, [.ref e0, .ref h0])), (r0, .inr (5, [.ref r1])), (r1, .inl (cJ, nn, .inr (.inl (setP fv ch (cry ov lf ch (fv (2 * ch), fv (2 * ch + 1)) fm (i - fm))))))]) rfl rfl (by decide) (by decide) [0, 3, 1, 2] (res := fun _ => [(c0, .inr (0, [.ref e0, .ref h0])), (h0, .inr (2, [.long ((ha (lN 2, lN 6) ov).1), .long ((ha (lN 2, lN 6) ov).2)])), (r0, .inr (5, [.ref r1])), (r1, .inl (cJ, nn, .inr (.inl (setP fv ch (cry ov lf ch (fv (2 * ch), fv (2 * ch + 1)) fm (i - fm))))))]) (fun _ => rfl) (by decide) (fun  _ H locs hu hP hD hS => ?_)
      have hP : va_P (dC, dI) vwCl [(c0, .inr (0, [.ref e0, .ref h0])), (h0, .inr (2, [.long ((ha (lN 2, lN 6) ov).1), .long ((ha (lN 2, lN 6) ov).2)])), (r0, .inr (5, [.ref r1])), (r1, .inl (cJ, nn, .inr (.inl (setP fv ch (cry ov lf ch (fv (2 * ch), fv (2 * ch + 1)) fm (i - fm))))))] H := hP
      have hD : va_D A [(c0, .inr (0, [.ref e0, .ref h0])), (h0, .inr (2, [.long ((ha (lN 2, lN 6) ov).1), .long ((ha (lN 2, lN 6) ov).2)])), (r0, .inr (5, [.ref r1])), (r1, .inl (cJ, nn, .inr (.inl (setP fv ch (cry ov lf ch (fv (2 * ch), fv (2 * ch + 1)) fm (i - fm))))))] := hD
      refine lv_aload_n hx hb dX0_carry_29 rfl (lv_at hl 0 rfl) ?_
      refine va_get (D := (dC, dI)) (ci := 0) (v := .ref h0) (C := RX0) (T := TX0) (N := 2) hx hb hts iX0 hown hK hP 0 rfl rfl 1 (by decide) f23 (fun _ h9 => h9) rfl dX0_carry_30 ?_
      refine lv_iload_n hx hb dX0_carry_33 rfl (lv_at hl 2 rfl) ?_
      refine lv_i2l (v := lN lf) hx hb dX0_carry_34 (nI_l (by omega)) ?_
      refine st_callv (va_runV (As := [.long (lN lf)]) (rest := []) ⟨hx, hb, hml, hown, hts⟩ (c_Hasher_add l dC dI cJ cI h0 (ha (lN 2, lN 6) ov) (lN lf)  H.size) (cwV 1 hts gX0_carry_X2_add rfl rfl rfl (by decide +kernel) ⟨Nat.le_of_ble_eq_true rfl, Nat.le_of_ble_eq_true rfl⟩) (st_preV hK hP hD [1] rfl rfl (ci := 2) (q0 := 0) rfl rfl) rfl rfl hl.1 rfl (lv_room (Nat.le_of_ble_eq_true rfl)) dX0_carry_35 ⟨Nat.le_of_ble_eq_true rfl, Nat.le_of_ble_eq_true rfl⟩) hP hD hS hA [1] [0, 2, 3] (wr := [(c0, .inr (0, [.ref e0, .ref h0])), (r0, .inr (5, [.ref r1])), (r1, .inl (cJ, nn, .inr (.inl (setP fv ch (cry ov lf ch (fv (2 * ch), fv (2 * ch + 1)) fm (i - fm))))))]) rfl rfl (by decide) (by decide) [0, 3, 1, 2] (res := fun _ => [(c0, .inr (0, [.ref e0, .ref h0])), (h0, .inr (2, [.long ((ha (ha (lN 2, lN 6) ov) (lN lf)).1), .long ((ha (ha (lN 2, lN 6) ov) (lN lf)).2)])), (r0, .inr (5, [.ref r1])), (r1, .inl (cJ, nn, .inr (.inl (setP fv ch (cry ov lf ch (fv (2 * ch), fv (2 * ch + 1)) fm (i - fm))))))]) (fun _ => rfl) (by decide) (fun  _ H locs hu hP hD hS => ?_)
      have hP : va_P (dC, dI) vwCl [(c0, .inr (0, [.ref e0, .ref h0])), (h0, .inr (2, [.long ((ha (ha (lN 2, lN 6) ov) (lN lf)).1), .long ((ha (ha (lN 2, lN 6) ov) (lN lf)).2)])), (r0, .inr (5, [.ref r1])), (r1, .inl (cJ, nn, .inr (.inl (setP fv ch (cry ov lf ch (fv (2 * ch), fv (2 * ch + 1)) fm (i - fm))))))] H := hP
      have hD : va_D A [(c0, .inr (0, [.ref e0, .ref h0])), (h0, .inr (2, [.long ((ha (ha (lN 2, lN 6) ov) (lN lf)).1), .long ((ha (ha (lN 2, lN 6) ov) (lN lf)).2)])), (r0, .inr (5, [.ref r1])), (r1, .inl (cJ, nn, .inr (.inl (setP fv ch (cry ov lf ch (fv (2 * ch), fv (2 * ch + 1)) fm (i - fm))))))] := hD
      refine lv_aload_n hx hb dX0_carry_38 rfl (lv_at hl 0 rfl) ?_
      refine va_get (D := (dC, dI)) (ci := 0) (v := .ref h0) (C := RX0) (T := TX0) (N := 2) hx hb hts iX0 hown hK hP 0 rfl rfl 1 (by decide) f23 (fun _ h9 => h9) rfl dX0_carry_39 ?_
      refine lv_iload hx hb dX0_carry_42 (lv_at hl 3 rfl) ?_
      refine lv_i2l (v := lN ch) hx hb dX0_carry_44 (nI_l (by omega)) ?_
      refine st_callv (va_runV (As := [.long (lN ch)]) (rest := []) ⟨hx, hb, hml, hown, hts⟩ (c_Hasher_add l dC dI cJ cI h0 (ha (ha (lN 2, lN 6) ov) (lN lf)) (lN ch)  H.size) (cwV 1 hts gX0_carry_X2_add rfl rfl rfl (by decide +kernel) ⟨Nat.le_of_ble_eq_true rfl, Nat.le_of_ble_eq_true rfl⟩) (st_preV hK hP hD [1] rfl rfl (ci := 2) (q0 := 0) rfl rfl) rfl rfl hl.1 rfl (lv_room (Nat.le_of_ble_eq_true rfl)) dX0_carry_45 ⟨Nat.le_of_ble_eq_true rfl, Nat.le_of_ble_eq_true rfl⟩) hP hD hS hA [1] [0, 2, 3] (wr := [(c0, .inr (0, [.ref e0, .ref h0])), (r0, .inr (5, [.ref r1])), (r1, .inl (cJ, nn, .inr (.inl (setP fv ch (cry ov lf ch (fv (2 * ch), fv (2 * ch + 1)) fm (i - fm))))))]) rfl rfl (by decide) (by decide) [0, 3, 1, 2] (res := fun _ => [(c0, .inr (0, [.ref e0, .ref h0])), (h0, .inr (2, [.long ((ha (ha (ha (lN 2, lN 6) ov) (lN lf)) (lN ch)).1), .long ((ha (ha (ha (lN 2, lN 6) ov) (lN lf)) (lN ch)).2)])), (r0, .inr (5, [.ref r1])), (r1, .inl (cJ, nn, .inr (.inl (setP fv ch (cry ov lf ch (fv (2 * ch), fv (2 * ch + 1)) fm (i - fm))))))]) (fun _ => rfl) (by decide) (fun  _ H locs hu hP hD hS => ?_)
      have hP : va_P (dC, dI) vwCl [(c0, .inr (0, [.ref e0, .ref h0])), (h0, .inr (2, [.long ((ha (ha (ha (lN 2, lN 6) ov) (lN lf)) (lN ch)).1), .long ((ha (ha (ha (lN 2, lN 6) ov) (lN lf)) (lN ch)).2)])), (r0, .inr (5, [.ref r1])), (r1, .inl (cJ, nn, .inr (.inl (setP fv ch (cry ov lf ch (fv (2 * ch), fv (2 * ch + 1)) fm (i - fm))))))] H := hP
      have hD : va_D A [(c0, .inr (0, [.ref e0, .ref h0])), (h0, .inr (2, [.long ((ha (ha (ha (lN 2, lN 6) ov) (lN lf)) (lN ch)).1), .long ((ha (ha (ha (lN 2, lN 6) ov) (lN lf)) (lN ch)).2)])), (r0, .inr (5, [.ref r1])), (r1, .inl (cJ, nn, .inr (.inl (setP fv ch (cry ov lf ch (fv (2 * ch), fv (2 * ch + 1)) fm (i - fm))))))] := hD
      refine lv_aload_n hx hb dX0_carry_48 rfl (lv_at hl 0 rfl) ?_
      refine va_get (D := (dC, dI)) (ci := 0) (v := .ref h0) (C := RX0) (T := TX0) (N := 2) hx hb hts iX0 hown hK hP 0 rfl rfl 1 (by decide) f23 (fun _ h9 => h9) rfl dX0_carry_49 ?_
      refine lv_iload hx hb dX0_carry_52 (lv_at hl 6 rfl) ?_
      refine lv_i2l (v := lN i) hx hb dX0_carry_54 (nI_l (by omega)) ?_
      refine st_callv (va_runV (As := [.long (lN i)]) (rest := []) ⟨hx, hb, hml, hown, hts⟩ (c_Hasher_add l dC dI cJ cI h0 (ha (ha (ha (lN 2, lN 6) ov) (lN lf)) (lN ch)) (lN i)  H.size) (cwV 1 hts gX0_carry_X2_add rfl rfl rfl (by decide +kernel) ⟨Nat.le_of_ble_eq_true rfl, Nat.le_of_ble_eq_true rfl⟩) (st_preV hK hP hD [1] rfl rfl (ci := 2) (q0 := 0) rfl rfl) rfl rfl hl.1 rfl (lv_room (Nat.le_of_ble_eq_true rfl)) dX0_carry_55 ⟨Nat.le_of_ble_eq_true rfl, Nat.le_of_ble_eq_true rfl⟩) hP hD hS hA [1] [0, 2, 3] (wr := [(c0, .inr (0, [.ref e0, .ref h0])), (r0, .inr (5, [.ref r1])), (r1, .inl (cJ, nn, .inr (.inl (setP fv ch (cry ov lf ch (fv (2 * ch), fv (2 * ch + 1)) fm (i - fm))))))]) rfl rfl (by decide) (by decide) [0, 3, 1, 2] (res := fun _ => [(c0, .inr (0, [.ref e0, .ref h0])), (h0, .inr (2, [.long ((ha (ha (ha (ha (lN 2, lN 6) ov) (lN lf)) (lN ch)) (lN i)).1), .long ((ha (ha (ha (ha (lN 2, lN 6) ov) (lN lf)) (lN ch)) (lN i)).2)])), (r0, .inr (5, [.ref r1])), (r1, .inl (cJ, nn, .inr (.inl (setP fv ch (cry ov lf ch (fv (2 * ch), fv (2 * ch + 1)) fm (i - fm))))))]) (fun _ => rfl) (by decide) (fun  _ H locs hu hP hD hS => ?_)
      have hP : va_P (dC, dI) vwCl [(c0, .inr (0, [.ref e0, .ref h0])), (h0, .inr (2, [.long ((ha (ha (ha (ha (lN 2, lN 6) ov) (lN lf)) (lN ch)) (lN i)).1), .long ((ha (ha (ha (ha (lN 2, lN 6) ov) (lN lf)) (lN ch)) (lN i)).2)])), (r0, .inr (5, [.ref r1])), (r1, .inl (cJ, nn, .inr (.inl (setP fv ch (cry ov lf ch (fv (2 * ch), fv (2 * ch + 1)) fm (i - fm))))))] H := hP
      have hD : va_D A [(c0, .inr (0, [.ref e0, .ref h0])), (h0, .inr (2, [.long ((ha (ha (ha (ha (lN 2, lN 6) ov) (lN lf)) (lN ch)) (lN i)).1), .long ((ha (ha (ha (ha (lN 2, lN 6) ov) (lN lf)) (lN ch)) (lN i)).2)])), (r0, .inr (5, [.ref r1])), (r1, .inl (cJ, nn, .inr (.inl (setP fv ch (cry ov lf ch (fv (2 * ch), fv (2 * ch + 1)) fm (i - fm))))))] := hD
      refine lv_aload_n hx hb dX0_carry_58 rfl (lv_at hl 0 rfl) ?_
      refine va_get (D := (dC, dI)) (ci := 0) (v := .ref h0) (C := RX0) (T := TX0) (N := 2) hx hb hts iX0 hown hK hP 0 rfl rfl 1 (by decide) f23 (fun _ h9 => h9) rfl dX0_carry_59 ?_
      refine lv_aload hx hb dX0_carry_62 (lv_at hl 5 rfl) ?_
      refine lv_iload hx hb dX0_carry_64 (lv_at hl 3 rfl) ?_
      refine st_callv (va_runV (As := [.ref r0, .int (nI ch)]) (rest := []) ⟨hx, hb, hml, hown, hts⟩ (c_Hasher_addPair l dC dI cJ cI h0 r0 r1 (ha (ha (ha (ha (lN 2, lN 6) ov) (lN lf)) (lN ch)) (lN i)) nn (setP fv ch (cry ov lf ch (fv (2 * ch), fv (2 * ch + 1)) fm (i - fm))) ch (by omega) (by omega) H.size) (cwV 2 hts gX0_carry_X2_addPair rfl rfl rfl (by decide +kernel) ⟨Nat.le_of_ble_eq_true rfl, Nat.le_of_ble_eq_true rfl⟩) (st_preV hK hP hD [1, 2, 3] rfl rfl (ci := 2) (q0 := 0) rfl rfl) rfl rfl hl.1 rfl (lv_room (Nat.le_of_ble_eq_true rfl)) dX0_carry_66 ⟨Nat.le_of_ble_eq_true rfl, Nat.le_of_ble_eq_true rfl⟩) hP hD hS hA [1, 2, 3] [0] (wr := [(c0, .inr (0, [.ref e0, .ref h0]))]) rfl rfl (by decide) (by decide) [0, 1, 2, 3] (res := fun _ => [(c0, .inr (0, [.ref e0, .ref h0])), (h0, .inr (2, [.long ((ha (ha (ha (ha (ha (ha (lN 2, lN 6) ov) (lN lf)) (lN ch)) (lN i)) ((setP fv ch (cry ov lf ch (fv (2 * ch), fv (2 * ch + 1)) fm (i - fm))) (2 * ch))) ((setP fv ch (cry ov lf ch (fv (2 * ch), fv (2 * ch + 1)) fm (i - fm))) (2 * ch + 1))).1), .long ((ha (ha (ha (ha (ha (ha (lN 2, lN 6) ov) (lN lf)) (lN ch)) (lN i)) ((setP fv ch (cry ov lf ch (fv (2 * ch), fv (2 * ch + 1)) fm (i - fm))) (2 * ch))) ((setP fv ch (cry ov lf ch (fv (2 * ch), fv (2 * ch + 1)) fm (i - fm))) (2 * ch + 1))).2)])), (r0, .inr (5, [.ref r1])), (r1, .inl (cJ, nn, .inr (.inl (setP fv ch (cry ov lf ch (fv (2 * ch), fv (2 * ch + 1)) fm (i - fm))))))]) (fun _ => rfl) (by decide) (fun  _ H locs hu hP hD hS => ?_)
      have hP : va_P (dC, dI) vwCl [(c0, .inr (0, [.ref e0, .ref h0])), (h0, .inr (2, [.long ((ha (ha (ha (ha (ha (ha (lN 2, lN 6) ov) (lN lf)) (lN ch)) (lN i)) ((setP fv ch (cry ov lf ch (fv (2 * ch), fv (2 * ch + 1)) fm (i - fm))) (2 * ch))) ((setP fv ch (cry ov lf ch (fv (2 * ch), fv (2 * ch + 1)) fm (i - fm))) (2 * ch + 1))).1), .long ((ha (ha (ha (ha (ha (ha (lN 2, lN 6) ov) (lN lf)) (lN ch)) (lN i)) ((setP fv ch (cry ov lf ch (fv (2 * ch), fv (2 * ch + 1)) fm (i - fm))) (2 * ch))) ((setP fv ch (cry ov lf ch (fv (2 * ch), fv (2 * ch + 1)) fm (i - fm))) (2 * ch + 1))).2)])), (r0, .inr (5, [.ref r1])), (r1, .inl (cJ, nn, .inr (.inl (setP fv ch (cry ov lf ch (fv (2 * ch), fv (2 * ch + 1)) fm (i - fm))))))] H := hP
      have hD : va_D A [(c0, .inr (0, [.ref e0, .ref h0])), (h0, .inr (2, [.long ((ha (ha (ha (ha (ha (ha (lN 2, lN 6) ov) (lN lf)) (lN ch)) (lN i)) ((setP fv ch (cry ov lf ch (fv (2 * ch), fv (2 * ch + 1)) fm (i - fm))) (2 * ch))) ((setP fv ch (cry ov lf ch (fv (2 * ch), fv (2 * ch + 1)) fm (i - fm))) (2 * ch + 1))).1), .long ((ha (ha (ha (ha (ha (ha (lN 2, lN 6) ov) (lN lf)) (lN ch)) (lN i)) ((setP fv ch (cry ov lf ch (fv (2 * ch), fv (2 * ch + 1)) fm (i - fm))) (2 * ch))) ((setP fv ch (cry ov lf ch (fv (2 * ch), fv (2 * ch + 1)) fm (i - fm))) (2 * ch + 1))).2)])), (r0, .inr (5, [.ref r1])), (r1, .inl (cJ, nn, .inr (.inl (setP fv ch (cry ov lf ch (fv (2 * ch), fv (2 * ch + 1)) fm (i - fm))))))] := hD
      refine lv_aload_n hx hb dX0_carry_69 rfl (lv_at hl 0 rfl) ?_
      refine va_get (D := (dC, dI)) (ci := 0) (v := .ref h0) (C := RX0) (T := TX0) (N := 2) hx hb hts iX0 hown hK hP 0 rfl rfl 1 (by decide) f23 (fun _ h9 => h9) rfl dX0_carry_70 ?_
      refine lv_aload hx hb dX0_carry_73 (lv_at hl 5 rfl) ?_
      refine lv_iload hx hb dX0_carry_75 (lv_at hl 3 rfl) ?_
      refine st_callv (va_runV (As := [.ref r0, .int (nI ch)]) (rest := []) ⟨hx, hb, hml, hown, hts⟩ (c_Hasher_giveTo l dC dI cJ cI h0 r0 r1 (ha (ha (ha (ha (ha (ha (lN 2, lN 6) ov) (lN lf)) (lN ch)) (lN i)) ((setP fv ch (cry ov lf ch (fv (2 * ch), fv (2 * ch + 1)) fm (i - fm))) (2 * ch))) ((setP fv ch (cry ov lf ch (fv (2 * ch), fv (2 * ch + 1)) fm (i - fm))) (2 * ch + 1))) nn (setP fv ch (cry ov lf ch (fv (2 * ch), fv (2 * ch + 1)) fm (i - fm))) ch (by omega) (by omega) H.size) (cwV 2 hts gX0_carry_X2_giveTo rfl rfl rfl (by decide +kernel) ⟨Nat.le_of_ble_eq_true rfl, Nat.le_of_ble_eq_true rfl⟩) (st_preV hK hP hD [1, 2, 3] rfl rfl (ci := 2) (q0 := 0) rfl rfl) rfl rfl hl.1 rfl (lv_room (Nat.le_of_ble_eq_true rfl)) dX0_carry_77 ⟨Nat.le_of_ble_eq_true rfl, Nat.le_of_ble_eq_true rfl⟩) hP hD hS hA [1, 2, 3] [0] (wr := [(c0, .inr (0, [.ref e0, .ref h0]))]) rfl rfl (by decide) (by decide) [0, 1, 2, 3] (res := fun _ => [(c0, .inr (0, [.ref e0, .ref h0])), (h0, .inr (2, [.long ((ha (ha (ha (ha (ha (ha (lN 2, lN 6) ov) (lN lf)) (lN ch)) (lN i)) ((setP fv ch (cry ov lf ch (fv (2 * ch), fv (2 * ch + 1)) fm (i - fm))) (2 * ch))) ((setP fv ch (cry ov lf ch (fv (2 * ch), fv (2 * ch + 1)) fm (i - fm))) (2 * ch + 1))).1), .long ((ha (ha (ha (ha (ha (ha (lN 2, lN 6) ov) (lN lf)) (lN ch)) (lN i)) ((setP fv ch (cry ov lf ch (fv (2 * ch), fv (2 * ch + 1)) fm (i - fm))) (2 * ch))) ((setP fv ch (cry ov lf ch (fv (2 * ch), fv (2 * ch + 1)) fm (i - fm))) (2 * ch + 1))).2)])), (r0, .inr (5, [.ref r1])), (r1, .inl (cJ, nn, .inr (.inl (setP (setP fv ch (cry ov lf ch (fv (2 * ch), fv (2 * ch + 1)) fm (i - fm))) ch (ha (ha (ha (ha (ha (ha (lN 2, lN 6) ov) (lN lf)) (lN ch)) (lN i)) ((setP fv ch (cry ov lf ch (fv (2 * ch), fv (2 * ch + 1)) fm (i - fm))) (2 * ch))) ((setP fv ch (cry ov lf ch (fv (2 * ch), fv (2 * ch + 1)) fm (i - fm))) (2 * ch + 1)))))))]) (fun _ => rfl) (by decide) (fun  _ H locs hu hP hD hS => ?_)
      have hP : va_P (dC, dI) vwCl [(c0, .inr (0, [.ref e0, .ref h0])), (h0, .inr (2, [.long ((ha (ha (ha (ha (ha (ha (lN 2, lN 6) ov) (lN lf)) (lN ch)) (lN i)) ((setP fv ch (cry ov lf ch (fv (2 * ch), fv (2 * ch + 1)) fm (i - fm))) (2 * ch))) ((setP fv ch (cry ov lf ch (fv (2 * ch), fv (2 * ch + 1)) fm (i - fm))) (2 * ch + 1))).1), .long ((ha (ha (ha (ha (ha (ha (lN 2, lN 6) ov) (lN lf)) (lN ch)) (lN i)) ((setP fv ch (cry ov lf ch (fv (2 * ch), fv (2 * ch + 1)) fm (i - fm))) (2 * ch))) ((setP fv ch (cry ov lf ch (fv (2 * ch), fv (2 * ch + 1)) fm (i - fm))) (2 * ch + 1))).2)])), (r0, .inr (5, [.ref r1])), (r1, .inl (cJ, nn, .inr (.inl (setP (setP fv ch (cry ov lf ch (fv (2 * ch), fv (2 * ch + 1)) fm (i - fm))) ch (ha (ha (ha (ha (ha (ha (lN 2, lN 6) ov) (lN lf)) (lN ch)) (lN i)) ((setP fv ch (cry ov lf ch (fv (2 * ch), fv (2 * ch + 1)) fm (i - fm))) (2 * ch))) ((setP fv ch (cry ov lf ch (fv (2 * ch), fv (2 * ch + 1)) fm (i - fm))) (2 * ch + 1)))))))] H := hP
      have hD : va_D A [(c0, .inr (0, [.ref e0, .ref h0])), (h0, .inr (2, [.long ((ha (ha (ha (ha (ha (ha (lN 2, lN 6) ov) (lN lf)) (lN ch)) (lN i)) ((setP fv ch (cry ov lf ch (fv (2 * ch), fv (2 * ch + 1)) fm (i - fm))) (2 * ch))) ((setP fv ch (cry ov lf ch (fv (2 * ch), fv (2 * ch + 1)) fm (i - fm))) (2 * ch + 1))).1), .long ((ha (ha (ha (ha (ha (ha (lN 2, lN 6) ov) (lN lf)) (lN ch)) (lN i)) ((setP fv ch (cry ov lf ch (fv (2 * ch), fv (2 * ch + 1)) fm (i - fm))) (2 * ch))) ((setP fv ch (cry ov lf ch (fv (2 * ch), fv (2 * ch + 1)) fm (i - fm))) (2 * ch + 1))).2)])), (r0, .inr (5, [.ref r1])), (r1, .inl (cJ, nn, .inr (.inl (setP (setP fv ch (cry ov lf ch (fv (2 * ch), fv (2 * ch + 1)) fm (i - fm))) ch (ha (ha (ha (ha (ha (ha (lN 2, lN 6) ov) (lN lf)) (lN ch)) (lN i)) ((setP fv ch (cry ov lf ch (fv (2 * ch), fv (2 * ch + 1)) fm (i - fm))) (2 * ch))) ((setP fv ch (cry ov lf ch (fv (2 * ch), fv (2 * ch + 1)) fm (i - fm))) (2 * ch + 1)))))))] := hD
      refine lv_iinc (v := nI (i + 1)) (lv' := [(8, .int (nI (i + 1))), (0, .ref c0), (1, .long ov), (3, .int (nI lf)), (4, .int (nI ch)), (6, .int (nI tt)), (7, .ref r0)]) hx hb dX0_carry_80 hl (k := 6) rfl (st_inc i 1 (by decide)) (by decide) rfl (fun ls hl => ?_)
      refine lv_goto (tgt := 4) hx hb dX0_carry_83 (by decide) ?_
      have eW_2 : ([(c0, .inr (0, [.ref e0, .ref h0])), (h0, .inr (2, [.long ((ha (ha (ha (ha (ha (ha (lN 2, lN 6) ov) (lN lf)) (lN ch)) (lN i)) ((setP fv ch (cry ov lf ch (fv (2 * ch), fv (2 * ch + 1)) fm (i - fm))) (2 * ch))) ((setP fv ch (cry ov lf ch (fv (2 * ch), fv (2 * ch + 1)) fm (i - fm))) (2 * ch + 1))).1), .long ((ha (ha (ha (ha (ha (ha (lN 2, lN 6) ov) (lN lf)) (lN ch)) (lN i)) ((setP fv ch (cry ov lf ch (fv (2 * ch), fv (2 * ch + 1)) fm (i - fm))) (2 * ch))) ((setP fv ch (cry ov lf ch (fv (2 * ch), fv (2 * ch + 1)) fm (i - fm))) (2 * ch + 1))).2)])), (r0, .inr (5, [.ref r1])), (r1, .inl (cJ, nn, .inr (.inl (setP (setP fv ch (cry ov lf ch (fv (2 * ch), fv (2 * ch + 1)) fm (i - fm))) ch (ha (ha (ha (ha (ha (ha (lN 2, lN 6) ov) (lN lf)) (lN ch)) (lN i)) ((setP fv ch (cry ov lf ch (fv (2 * ch), fv (2 * ch + 1)) fm (i - fm))) (2 * ch))) ((setP fv ch (cry ov lf ch (fv (2 * ch), fv (2 * ch + 1)) fm (i - fm))) (2 * ch + 1)))))))] : va_W) = [(c0, .inr (0, [.ref e0, .ref h0])), (h0, .inr (2, [.long ((ha (ha (ha (ha (ha (ha (lN 2, lN 6) ov) (lN lf)) (lN ch)) (lN i)) (setP fv ch (cry ov lf ch (fv (2 * ch), fv (2 * ch + 1)) fm (i - fm)) (2 * ch))) (setP fv ch (cry ov lf ch (fv (2 * ch), fv (2 * ch + 1)) fm (i - fm)) (2 * ch + 1))).1), .long ((ha (ha (ha (ha (ha (ha (lN 2, lN 6) ov) (lN lf)) (lN ch)) (lN i)) (setP fv ch (cry ov lf ch (fv (2 * ch), fv (2 * ch + 1)) fm (i - fm)) (2 * ch))) (setP fv ch (cry ov lf ch (fv (2 * ch), fv (2 * ch + 1)) fm (i - fm)) (2 * ch + 1))).2)])), (r0, .inr (5, [.ref r1])), (r1, .inl (cJ, nn, .inr (.inl (setP fv ch (cry ov lf ch (fv (2 * ch), fv (2 * ch + 1)) fm ((i + 1) - fm))))))] := by rw [setP_1, setP_2, setP_setP, cry_s hif] <;> rfl
      have hP : va_P (dC, dI) vwCl [(c0, .inr (0, [.ref e0, .ref h0])), (h0, .inr (2, [.long ((ha (ha (ha (ha (ha (ha (lN 2, lN 6) ov) (lN lf)) (lN ch)) (lN i)) (setP fv ch (cry ov lf ch (fv (2 * ch), fv (2 * ch + 1)) fm (i - fm)) (2 * ch))) (setP fv ch (cry ov lf ch (fv (2 * ch), fv (2 * ch + 1)) fm (i - fm)) (2 * ch + 1))).1), .long ((ha (ha (ha (ha (ha (ha (lN 2, lN 6) ov) (lN lf)) (lN ch)) (lN i)) (setP fv ch (cry ov lf ch (fv (2 * ch), fv (2 * ch + 1)) fm (i - fm)) (2 * ch))) (setP fv ch (cry ov lf ch (fv (2 * ch), fv (2 * ch + 1)) fm (i - fm)) (2 * ch + 1))).2)])), (r0, .inr (5, [.ref r1])), (r1, .inl (cJ, nn, .inr (.inl (setP fv ch (cry ov lf ch (fv (2 * ch), fv (2 * ch + 1)) fm ((i + 1) - fm))))))] H := by rw [← eW_2]; exact hP
      have hD : va_D A [(c0, .inr (0, [.ref e0, .ref h0])), (h0, .inr (2, [.long ((ha (ha (ha (ha (ha (ha (lN 2, lN 6) ov) (lN lf)) (lN ch)) (lN i)) (setP fv ch (cry ov lf ch (fv (2 * ch), fv (2 * ch + 1)) fm (i - fm)) (2 * ch))) (setP fv ch (cry ov lf ch (fv (2 * ch), fv (2 * ch + 1)) fm (i - fm)) (2 * ch + 1))).1), .long ((ha (ha (ha (ha (ha (ha (lN 2, lN 6) ov) (lN lf)) (lN ch)) (lN i)) (setP fv ch (cry ov lf ch (fv (2 * ch), fv (2 * ch + 1)) fm (i - fm)) (2 * ch))) (setP fv ch (cry ov lf ch (fv (2 * ch), fv (2 * ch + 1)) fm (i - fm)) (2 * ch + 1))).2)])), (r0, .inr (5, [.ref r1])), (r1, .inl (cJ, nn, .inr (.inl (setP fv ch (cry ov lf ch (fv (2 * ch), fv (2 * ch + 1)) fm ((i + 1) - fm))))))] := by rw [← eW_2]; exact hD
      exact ih _ _ _ ⟨(ha (ha (ha (ha (ha (ha (lN 2, lN 6) ov) (lN lf)) (lN ch)) (lN i)) (setP fv ch (cry ov lf ch (fv (2 * ch), fv (2 * ch + 1)) fm (i - fm)) (2 * ch))) (setP fv ch (cry ov lf ch (fv (2 * ch), fv (2 * ch + 1)) fm (i - fm)) (2 * ch + 1))), (by omega), hP, hD, hS, lv_sub hl [1, 2, 3, 4, 5, 6, 0] rfl⟩

set_option maxHeartbeats 4000000 in
set_option maxRecDepth 100000 in
theorem c_Chains_makeEnds (l : Launch) (dC : Nat → ClassId) (dI : Nat → Nat → Nat) (cJ cI : ClassId) (c0 e0 e1 h0 k0 : Nat) (pv : Int64 × Int64) (w1 w2 ov : Int64) (xh : Int32) (lf : Nat) (ev : Nat → Int64) (hlf : lf < 2 ^ 31) (sz : Nat) : Met l yX0_makeEnds wsX0_makeEnds ({ frames := 4, cells := 0, slots := 0, locals := 97 }) (va_Pc [.ref c0, .ref k0, .int (nI lf)] (st_B (dC, dI) vwCl [(cJ, .long), (cI, .int)] [(c0, .inr (0, [.ref e0, .ref h0])), (h0, .inr (2, [.long pv.1, .long pv.2])), (k0, .inr (3, [.long w1, .long w2, .long ov, .int xh])), (e0, .inr (5, [.ref e1])), (e1, .inl (cJ, 70, .inr (.inl (ev))))] sz)) (va_Qv (fun u : (Int64 × Int64) => True) (st_E (dC, dI) vwCl [(cJ, .long), (cI, .int)] (va_A [(c0, .inr (0, [.ref e0, .ref h0])), (h0, .inr (2, [.long pv.1, .long pv.2])), (k0, .inr (3, [.long w1, .long w2, .long ov, .int xh])), (e0, .inr (5, [.ref e1])), (e1, .inl (cJ, 70, .inr (.inl (ev))))] sz) (fun u => [(c0, .inr (0, [.ref e0, .ref h0])), (h0, .inr (2, [.long u.1, .long u.2])), (k0, .inr (3, [.long w1, .long w2, .long ov, .int xh])), (e0, .inr (5, [.ref e1])), (e1, .inl (cJ, 70, .inr (.inl (mkT (pr (fun c => plc w1 w2 ov lf c 15)) 70 ev))))])) (va_A [(c0, .inr (0, [.ref e0, .ref h0])), (h0, .inr (2, [.long pv.1, .long pv.2])), (k0, .inr (3, [.long w1, .long w2, .long ov, .int xh])), (e0, .inr (5, [.ref e1])), (e1, .inl (cJ, 70, .inr (.inl (ev))))] sz)) 0 0 (va_A [(c0, .inr (0, [.ref e0, .ref h0])), (h0, .inr (2, [.long pv.1, .long pv.2])), (k0, .inr (3, [.long w1, .long w2, .long ov, .int xh])), (e0, .inr (5, [.ref e1])), (e1, .inl (cJ, 70, .inr (.inl (ev))))] sz) := by
  refine Met.ofW (cc := cX0_makeEnds) (maxL := 4) (ret := none) (by decide) rfl ?_
  intro p e s m args below meth c s₁ B hml hv
  obtain ⟨rfl, hsz, hP, hK, hD0⟩ := hv
  have hx := B.exec
  have hb := B.bytes
  have hr := B.returns
  have hts := atoms_spec (ws := wsX0_makeEnds) B.pre
  have hown : s.vm.findClass RX0 = some m.cls := findClass_of_methodNamed B.named
  have hlocks := B.notSynchronized
  subst hsz
  have hD := hD0.self (sz := s.heap.size)
  generalize hAe : va_A [(c0, .inr (0, [.ref e0, .ref h0])), (h0, .inr (2, [.long pv.1, .long pv.2])), (k0, .inr (3, [.long w1, .long w2, .long ov, .int xh])), (e0, .inr (5, [.ref e1])), (e1, .inl (cJ, 70, .inr (.inl (ev))))] s.heap.size = A at hD ⊢
  have hA : ∀ q : Nat, s.heap.size ≤ q → A q := fun q h => by rw [← hAe]; exact Or.inr h
  have hS : va_S A s.heap s.heap [] := va_S.rf
  have hP : va_P (dC, dI) vwCl [(c0, .inr (0, [.ref e0, .ref h0])), (h0, .inr (2, [.long pv.1, .long pv.2])), (k0, .inr (3, [.long w1, .long w2, .long ov, .int xh])), (e0, .inr (5, [.ref e1])), (e1, .inl (cJ, 70, .inr (.inl (ev))))] s.heap := hP
  have hl := lv_entry ([.ref c0, .ref k0, .int (nI lf)]) (n := 4) (Nat.le_of_ble_eq_true rfl)
  rw [lg_entry_eq]
  generalize (lg_sl ([.ref c0, .ref k0, .int (nI lf)]) ++ List.replicate (4 - (lg_sl ([.ref c0, .ref k0, .int (nI lf)])).length) Slot.unset).toArray = ls at hl ⊢
  have iX0 : ∀ w ∈ wsX00, w ∈ wsX0_makeEnds := by decide +kernel
  have iX3 : ∀ w ∈ wsX30, w ∈ wsX0_makeEnds := by decide +kernel
  have f14 := hts (.fieldLink RX0 14 "LeafSigner$Chains" "ends" "LLeafSigner$Pairs;") (by decide +kernel)
  have f55 := hts (.fieldLink RX0 55 "LeafSigner$Keys" "open" "J") (by decide +kernel)
  have hl : lv_has ls 4 [(0, .ref c0), (1, .ref k0), (2, .int (nI lf))] := hl
  refine lv_iconst (v := nI 0) hx hb dX0_makeEnds_0 (by decide) ?_
  refine lv_istore_n (lv' := [(3, .int (nI 0)), (0, .ref c0), (1, .ref k0), (2, .int (nI lf))]) hx hb dX0_makeEnds_1 rfl hl (by decide) rfl (fun ls hl => ?_)
  have eW_1 : ([(c0, .inr (0, [.ref e0, .ref h0])), (h0, .inr (2, [.long pv.1, .long pv.2])), (k0, .inr (3, [.long w1, .long w2, .long ov, .int xh])), (e0, .inr (5, [.ref e1])), (e1, .inl (cJ, 70, .inr (.inl (ev))))] : va_W) = [(c0, .inr (0, [.ref e0, .ref h0])), (h0, .inr (2, [.long pv.1, .long pv.2])), (k0, .inr (3, [.long w1, .long w2, .long ov, .int xh])), (e0, .inr (5, [.ref e1])), (e1, .inl (cJ, 70, .inr (.inl (mkT (pr (fun c => plc w1 w2 ov lf c 15)) (2 * 0) ev))))] := by rw [Nat.mul_zero, mkT_0]
  have hP : va_P (dC, dI) vwCl [(c0, .inr (0, [.ref e0, .ref h0])), (h0, .inr (2, [.long pv.1, .long pv.2])), (k0, .inr (3, [.long w1, .long w2, .long ov, .int xh])), (e0, .inr (5, [.ref e1])), (e1, .inl (cJ, 70, .inr (.inl (mkT (pr (fun c => plc w1 w2 ov lf c 15)) (2 * 0) ev))))] s.heap := by rw [← eW_1]; exact hP
  have hD : va_D A [(c0, .inr (0, [.ref e0, .ref h0])), (h0, .inr (2, [.long pv.1, .long pv.2])), (k0, .inr (3, [.long w1, .long w2, .long ov, .int xh])), (e0, .inr (5, [.ref e1])), (e1, .inl (cJ, 70, .inr (.inl (mkT (pr (fun c => plc w1 w2 ov lf c 15)) (2 * 0) ev))))] := by rw [← eW_1]; exact hD
  refine st_loop (I := fun i H locs ls => ∃ (gp : Int64 × Int64), va_P (dC, dI) vwCl [(c0, .inr (0, [.ref e0, .ref h0])), (h0, .inr (2, [.long gp.1, .long gp.2])), (k0, .inr (3, [.long w1, .long w2, .long ov, .int xh])), (e0, .inr (5, [.ref e1])), (e1, .inl (cJ, 70, .inr (.inl (mkT (pr (fun c => plc w1 w2 ov lf c 15)) (2 * i) ev))))] H ∧ va_D A [(c0, .inr (0, [.ref e0, .ref h0])), (h0, .inr (2, [.long gp.1, .long gp.2])), (k0, .inr (3, [.long w1, .long w2, .long ov, .int xh])), (e0, .inr (5, [.ref e1])), (e1, .inl (cJ, 70, .inr (.inl (mkT (pr (fun c => plc w1 w2 ov lf c 15)) (2 * i) ev))))] ∧ va_S A s.heap H locs ∧ lv_has ls 4 [(0, .ref c0), (1, .ref k0), (2, .int (nI lf)), (3, .int (nI i))]) 0 35 (by omega) ⟨pv, hP, hD, hS, lv_sub hl [1, 2, 3, 0] rfl⟩ (fun H locs ls hI => ?_) (fun i H locs ls hi hI ih => ?_)
  ·
    obtain ⟨gp, hP, hD, hS, hl⟩ := hI
    have hP : va_P (dC, dI) vwCl [(c0, .inr (0, [.ref e0, .ref h0])), (h0, .inr (2, [.long gp.1, .long gp.2])), (k0, .inr (3, [.long w1, .long w2, .long ov, .int xh])), (e0, .inr (5, [.ref e1])), (e1, .inl (cJ, 70, .inr (.inl (mkT (pr (fun c => plc w1 w2 ov lf c 15)) (2 * 35) ev))))] H := hP
    have hD : va_D A [(c0, .inr (0, [.ref e0, .ref h0])), (h0, .inr (2, [.long gp.1, .long gp.2])), (k0, .inr (3, [.long w1, .long w2, .long ov, .int xh])), (e0, .inr (5, [.ref e1])), (e1, .inl (cJ, 70, .inr (.inl (mkT (pr (fun c => plc w1 w2 ov lf c 15)) (2 * 35) ev))))] := hD
    have hl : lv_has ls 4 [(0, .ref c0), (1, .ref k0), (2, .int (nI lf)), (3, .int (nI 35))] := hl
    refine lv_iload_n hx hb dX0_makeEnds_2 rfl (lv_at hl 3 rfl) ?_
    refine lv_bipush (v := nI 35) hx hb dX0_makeEnds_3 (by decide) ?_
    refine lv_icmp_ge (tgt := 42) hx hb dX0_makeEnds_5 (by decide) (fun c5 => ?_) (fun c5 => ?_)
    ·
      rw [q_le (by omega) (by omega)] at c5
      have eW_2 : ([(c0, .inr (0, [.ref e0, .ref h0])), (h0, .inr (2, [.long gp.1, .long gp.2])), (k0, .inr (3, [.long w1, .long w2, .long ov, .int xh])), (e0, .inr (5, [.ref e1])), (e1, .inl (cJ, 70, .inr (.inl (mkT (pr (fun c => plc w1 w2 ov lf c 15)) (2 * 35) ev))))] : va_W) = [(c0, .inr (0, [.ref e0, .ref h0])), (h0, .inr (2, [.long gp.1, .long gp.2])), (k0, .inr (3, [.long w1, .long w2, .long ov, .int xh])), (e0, .inr (5, [.ref e1])), (e1, .inl (cJ, 70, .inr (.inl (mkT (pr (fun c => plc w1 w2 ov lf c 15)) 70 ev))))] := rfl
      have hP : va_P (dC, dI) vwCl [(c0, .inr (0, [.ref e0, .ref h0])), (h0, .inr (2, [.long gp.1, .long gp.2])), (k0, .inr (3, [.long w1, .long w2, .long ov, .int xh])), (e0, .inr (5, [.ref e1])), (e1, .inl (cJ, 70, .inr (.inl (mkT (pr (fun c => plc w1 w2 ov lf c 15)) 70 ev))))] H := by rw [← eW_2]; exact hP
      have hD : va_D A [(c0, .inr (0, [.ref e0, .ref h0])), (h0, .inr (2, [.long gp.1, .long gp.2])), (k0, .inr (3, [.long w1, .long w2, .long ov, .int xh])), (e0, .inr (5, [.ref e1])), (e1, .inl (cJ, 70, .inr (.inl (mkT (pr (fun c => plc w1 w2 ov lf c 15)) 70 ev))))] := by rw [← eW_2]; exact hD
      exact W.vret hx hb hr (fun t ht hW => ⟨⟨gp, rfl, trivial, by rw [ht]; exact hP, va_K.moved hW.alike hK, hD⟩, hS.F ht⟩) hS.2.2 dX0_makeEnds_42
    ·
      rw [q_le (by omega) (by omega)] at c5
      exact absurd c5 (by omega)
  ·
    obtain ⟨gp, hP, hD, hS, hl⟩ := hI
    have hP : va_P (dC, dI) vwCl [(c0, .inr (0, [.ref e0, .ref h0])), (h0, .inr (2, [.long gp.1, .long gp.2])), (k0, .inr (3, [.long w1, .long w2, .long ov, .int xh])), (e0, .inr (5, [.ref e1])), (e1, .inl (cJ, 70, .inr (.inl (mkT (pr (fun c => plc w1 w2 ov lf c 15)) (2 * i) ev))))] H := hP
    have hD : va_D A [(c0, .inr (0, [.ref e0, .ref h0])), (h0, .inr (2, [.long gp.1, .long gp.2])), (k0, .inr (3, [.long w1, .long w2, .long ov, .int xh])), (e0, .inr (5, [.ref e1])), (e1, .inl (cJ, 70, .inr (.inl (mkT (pr (fun c => plc w1 w2 ov lf c 15)) (2 * i) ev))))] := hD
    have hl : lv_has ls 4 [(0, .ref c0), (1, .ref k0), (2, .int (nI lf)), (3, .int (nI i))] := hl
    refine lv_iload_n hx hb dX0_makeEnds_2 rfl (lv_at hl 3 rfl) ?_
    refine lv_bipush (v := nI 35) hx hb dX0_makeEnds_3 (by decide) ?_
    refine lv_icmp_ge (tgt := 42) hx hb dX0_makeEnds_5 (by decide) (fun c5 => ?_) (fun c5 => ?_)
    ·
      rw [q_le (by omega) (by omega)] at c5
      exact absurd c5 (by omega)
    ·
      rw [q_le (by omega) (by omega)] at c5
      refine lv_aload_n hx hb dX0_makeEnds_8 rfl (lv_at hl 0 rfl) ?_
      refine lv_aload_n hx hb dX0_makeEnds_9 rfl (lv_at hl 1 rfl) ?_
      refine lv_iload_n hx hb dX0_makeEnds_10 rfl (lv_at hl 2 rfl) ?_
      refine lv_iload_n hx hb dX0_makeEnds_11 rfl (lv_at hl 3 rfl) ?_
      refine lv_aload_n hx hb dX0_makeEnds_12 rfl (lv_at hl 0 rfl) ?_
      refine va_get (D := (dC, dI)) (ci := 0) (v := .ref e0) (C := RX0) (T := TX0) (N := 2) hx hb hts iX0 hown hK hP 0 rfl rfl 0 (by decide) f14 (fun _ h9 => h9) rfl dX0_makeEnds_13 ?_
      refine st_callv (va_runV (As := [.ref k0, .int (nI lf), .int (nI i), .ref e0]) (rest := []) ⟨hx, hb, hml, hown, hts⟩ (c_Chains_makeStart l dC dI cJ cI c0 e0 h0 k0 e0 e1 gp w1 w2 ov xh 70 lf i (mkT (pr (fun c => plc w1 w2 ov lf c 15)) (2 * i) ev) (by omega) (by omega) (by omega) H.size) (cwV 4 hts gX0_makeEnds_X0_makeStart rfl rfl rfl (by decide +kernel) ⟨Nat.le_of_ble_eq_true rfl, Nat.le_of_ble_eq_true rfl⟩) (st_preV hK hP hD [0, 1, 2, 3, 4] rfl rfl (ci := 0) (q0 := 0) rfl rfl) rfl rfl hl.1 rfl (lv_room (Nat.le_of_ble_eq_true rfl)) dX0_makeEnds_16 ⟨Nat.le_of_ble_eq_true rfl, Nat.le_of_ble_eq_true rfl⟩) hP hD hS hA [0, 1, 2, 3, 4] [] (wr := []) rfl rfl (by decide) (by decide) [0, 1, 2, 3, 4] (res := fun _ => [(c0, .inr (0, [.ref e0, .ref h0])), (h0, .inr (2, [.long ((cs0 w1 w2 lf i).1), .long ((cs0 w1 w2 lf i).2)])), (k0, .inr (3, [.long w1, .long w2, .long ov, .int xh])), (e0, .inr (5, [.ref e1])), (e1, .inl (cJ, 70, .inr (.inl (setP (mkT (pr (fun c => plc w1 w2 ov lf c 15)) (2 * i) ev) i (cs0 w1 w2 lf i)))))]) (fun _ => rfl) (by decide) (fun  _ H locs hu hP hD hS => ?_)
      have hP : va_P (dC, dI) vwCl [(c0, .inr (0, [.ref e0, .ref h0])), (h0, .inr (2, [.long ((cs0 w1 w2 lf i).1), .long ((cs0 w1 w2 lf i).2)])), (k0, .inr (3, [.long w1, .long w2, .long ov, .int xh])), (e0, .inr (5, [.ref e1])), (e1, .inl (cJ, 70, .inr (.inl (setP (mkT (pr (fun c => plc w1 w2 ov lf c 15)) (2 * i) ev) i (cs0 w1 w2 lf i)))))] H := hP
      have hD : va_D A [(c0, .inr (0, [.ref e0, .ref h0])), (h0, .inr (2, [.long ((cs0 w1 w2 lf i).1), .long ((cs0 w1 w2 lf i).2)])), (k0, .inr (3, [.long w1, .long w2, .long ov, .int xh])), (e0, .inr (5, [.ref e1])), (e1, .inl (cJ, 70, .inr (.inl (setP (mkT (pr (fun c => plc w1 w2 ov lf c 15)) (2 * i) ev) i (cs0 w1 w2 lf i)))))] := hD
      refine lv_aload_n hx hb dX0_makeEnds_19 rfl (lv_at hl 0 rfl) ?_
      refine lv_aload_n hx hb dX0_makeEnds_20 rfl (lv_at hl 1 rfl) ?_
      refine va_get (D := (dC, dI)) (ci := 3) (v := .long ov) (C := RX3) (T := TX3) (N := 4) hx hb hts iX3 hown hK hP 2 rfl rfl 2 (by decide) f55 (fun _ h9 => h9) rfl dX0_makeEnds_21 ?_
      refine lv_iload_n hx hb dX0_makeEnds_24 rfl (lv_at hl 2 rfl) ?_
      refine lv_iload_n hx hb dX0_makeEnds_25 rfl (lv_at hl 3 rfl) ?_
      refine lv_iconst (v := nI 0) hx hb dX0_makeEnds_26 (by decide) ?_
      refine lv_bipush (v := nI 15) hx hb dX0_makeEnds_27 (by decide) ?_
      refine lv_aload_n hx hb dX0_makeEnds_29 rfl (lv_at hl 0 rfl) ?_
      refine va_get (D := (dC, dI)) (ci := 0) (v := .ref e0) (C := RX0) (T := TX0) (N := 2) hx hb hts iX0 hown hK hP 0 rfl rfl 0 (by decide) f14 (fun _ h9 => h9) rfl dX0_makeEnds_30 ?_
      refine st_callv (va_runV (As := [.long ov, .int (nI lf), .int (nI i), .int (nI 0), .int (nI 15), .ref e0]) (rest := []) ⟨hx, hb, hml, hown, hts⟩ (c_Chains_carry l dC dI cJ cI c0 e0 h0 e0 e1 (cs0 w1 w2 lf i) ov 70 lf i 0 15 (setP (mkT (pr (fun c => plc w1 w2 ov lf c 15)) (2 * i) ev) i (cs0 w1 w2 lf i)) (by omega) (by omega) (by omega) (by omega) (by omega) H.size) (cwV 6 hts gX0_makeEnds_X0_carry rfl rfl rfl (by decide +kernel) ⟨Nat.le_of_ble_eq_true rfl, Nat.le_of_ble_eq_true rfl⟩) (st_preV hK hP hD [0, 1, 3, 4] rfl rfl (ci := 0) (q0 := 0) rfl rfl) rfl rfl hl.1 rfl (lv_room (Nat.le_of_ble_eq_true rfl)) dX0_makeEnds_33 ⟨Nat.le_of_ble_eq_true rfl, Nat.le_of_ble_eq_true rfl⟩) hP hD hS hA [0, 1, 3, 4] [2] (wr := [(k0, .inr (3, [.long w1, .long w2, .long ov, .int xh]))]) rfl rfl (by decide) (by decide) [1, 2, 0, 3, 4] (res := fun u_3 => [(c0, .inr (0, [.ref e0, .ref h0])), (h0, .inr (2, [.long u_3.1, .long u_3.2])), (k0, .inr (3, [.long w1, .long w2, .long ov, .int xh])), (e0, .inr (5, [.ref e1])), (e1, .inl (cJ, 70, .inr (.inl (setP (setP (mkT (pr (fun c => plc w1 w2 ov lf c 15)) (2 * i) ev) i (cs0 w1 w2 lf i)) i (cry ov lf i ((setP (mkT (pr (fun c => plc w1 w2 ov lf c 15)) (2 * i) ev) i (cs0 w1 w2 lf i)) (2 * i), (setP (mkT (pr (fun c => plc w1 w2 ov lf c 15)) (2 * i) ev) i (cs0 w1 w2 lf i)) (2 * i + 1)) 0 (15 - 0))))))]) (fun _ => rfl) (by decide) (fun  u_3 H locs hu hP hD hS => ?_)
      have hP : va_P (dC, dI) vwCl [(c0, .inr (0, [.ref e0, .ref h0])), (h0, .inr (2, [.long u_3.1, .long u_3.2])), (k0, .inr (3, [.long w1, .long w2, .long ov, .int xh])), (e0, .inr (5, [.ref e1])), (e1, .inl (cJ, 70, .inr (.inl (setP (setP (mkT (pr (fun c => plc w1 w2 ov lf c 15)) (2 * i) ev) i (cs0 w1 w2 lf i)) i (cry ov lf i ((setP (mkT (pr (fun c => plc w1 w2 ov lf c 15)) (2 * i) ev) i (cs0 w1 w2 lf i)) (2 * i), (setP (mkT (pr (fun c => plc w1 w2 ov lf c 15)) (2 * i) ev) i (cs0 w1 w2 lf i)) (2 * i + 1)) 0 (15 - 0))))))] H := hP
      have hD : va_D A [(c0, .inr (0, [.ref e0, .ref h0])), (h0, .inr (2, [.long u_3.1, .long u_3.2])), (k0, .inr (3, [.long w1, .long w2, .long ov, .int xh])), (e0, .inr (5, [.ref e1])), (e1, .inl (cJ, 70, .inr (.inl (setP (setP (mkT (pr (fun c => plc w1 w2 ov lf c 15)) (2 * i) ev) i (cs0 w1 w2 lf i)) i (cry ov lf i ((setP (mkT (pr (fun c => plc w1 w2 ov lf c 15)) (2 * i) ev) i (cs0 w1 w2 lf i)) (2 * i), (setP (mkT (pr (fun c => plc w1 w2 ov lf c 15)) (2 * i) ev) i (cs0 w1 w2 lf i)) (2 * i + 1)) 0 (15 - 0))))))] := hD
      have hu_4 := hu
      refine lv_iinc (v := nI (i + 1)) (lv' := [(3, .int (nI (i + 1))), (0, .ref c0), (1, .ref k0), (2, .int (nI lf))]) hx hb dX0_makeEnds_36 hl (k := 3) rfl (st_inc i 1 (by decide)) (by decide) rfl (fun ls hl => ?_)
      refine lv_goto (tgt := 2) hx hb dX0_makeEnds_39 (by decide) ?_
      have eW_5 : ([(c0, .inr (0, [.ref e0, .ref h0])), (h0, .inr (2, [.long u_3.1, .long u_3.2])), (k0, .inr (3, [.long w1, .long w2, .long ov, .int xh])), (e0, .inr (5, [.ref e1])), (e1, .inl (cJ, 70, .inr (.inl (setP (setP (mkT (pr (fun c => plc w1 w2 ov lf c 15)) (2 * i) ev) i (cs0 w1 w2 lf i)) i (cry ov lf i ((setP (mkT (pr (fun c => plc w1 w2 ov lf c 15)) (2 * i) ev) i (cs0 w1 w2 lf i)) (2 * i), (setP (mkT (pr (fun c => plc w1 w2 ov lf c 15)) (2 * i) ev) i (cs0 w1 w2 lf i)) (2 * i + 1)) 0 (15 - 0))))))] : va_W) = [(c0, .inr (0, [.ref e0, .ref h0])), (h0, .inr (2, [.long u_3.1, .long u_3.2])), (k0, .inr (3, [.long w1, .long w2, .long ov, .int xh])), (e0, .inr (5, [.ref e1])), (e1, .inl (cJ, 70, .inr (.inl (mkT (pr (fun c => plc w1 w2 ov lf c 15)) (2 * (i + 1)) ev))))] := by rw [← mkT_setP, setP_setP, setP_1, setP_2] <;> rfl
      have hP : va_P (dC, dI) vwCl [(c0, .inr (0, [.ref e0, .ref h0])), (h0, .inr (2, [.long u_3.1, .long u_3.2])), (k0, .inr (3, [.long w1, .long w2, .long ov, .int xh])), (e0, .inr (5, [.ref e1])), (e1, .inl (cJ, 70, .inr (.inl (mkT (pr (fun c => plc w1 w2 ov lf c 15)) (2 * (i + 1)) ev))))] H := by rw [← eW_5]; exact hP
      have hD : va_D A [(c0, .inr (0, [.ref e0, .ref h0])), (h0, .inr (2, [.long u_3.1, .long u_3.2])), (k0, .inr (3, [.long w1, .long w2, .long ov, .int xh])), (e0, .inr (5, [.ref e1])), (e1, .inl (cJ, 70, .inr (.inl (mkT (pr (fun c => plc w1 w2 ov lf c 15)) (2 * (i + 1)) ev))))] := by rw [← eW_5]; exact hD
      exact ih _ _ _ ⟨u_3, hP, hD, hS, lv_sub hl [1, 2, 3, 0] rfl⟩

set_option maxHeartbeats 4000000 in
set_option maxRecDepth 100000 in
theorem c_Chains_carryAllToEnds (l : Launch) (dC : Nat → ClassId) (dI : Nat → Nat → Nat) (cJ cI : ClassId) (c0 e0 e1 h0 s0 p0 p1 d0 d1 : Nat) (pv : Int64 × Int64) (ov : Int64) (xn : Int32) (lf : Nat) (ev gv : Nat → Int64) (dv : Nat → Int32) (dn : Nat → Nat) (hlf : lf < 2 ^ 31) (hdn : ∀ k, k < 35 → dv k = nI (dn k) ∧ dn k < 16) (sz : Nat) : Met l yX0_carryAllToEnds wsX0_carryAllToEnds ({ frames := 4, cells := 0, slots := 0, locals := 97 }) (va_Pc [.ref c0, .long ov, .ref s0, .ref d0] (st_B (dC, dI) vwCl [(cJ, .long), (cI, .int)] [(c0, .inr (0, [.ref e0, .ref h0])), (h0, .inr (2, [.long pv.1, .long pv.2])), (e0, .inr (5, [.ref e1])), (e1, .inl (cJ, 70, .inr (.inl (ev)))), (s0, .inr (6, [.ref p0, .int (nI lf), .int xn])), (p0, .inr (5, [.ref p1])), (p1, .inl (cJ, 78, .inr (.inl (gv)))), (d0, .inr (1, [.ref d1])), (d1, .inl (cI, 35, .inl (dv)))] sz)) (va_Qv (fun u : (Int64 × Int64) => True) (st_E (dC, dI) vwCl [(cJ, .long), (cI, .int)] (va_A [(c0, .inr (0, [.ref e0, .ref h0])), (h0, .inr (2, [.long pv.1, .long pv.2])), (e0, .inr (5, [.ref e1])), (e1, .inl (cJ, 70, .inr (.inl (ev)))), (s0, .inr (6, [.ref p0, .int (nI lf), .int xn])), (p0, .inr (5, [.ref p1])), (p1, .inl (cJ, 78, .inr (.inl (gv)))), (d0, .inr (1, [.ref d1])), (d1, .inl (cI, 35, .inl (dv)))] sz) (fun u => [(c0, .inr (0, [.ref e0, .ref h0])), (h0, .inr (2, [.long u.1, .long u.2])), (e0, .inr (5, [.ref e1])), (e1, .inl (cJ, 70, .inr (.inl (mkT (pr (fun c => cry ov lf c (gv (2 * c), gv (2 * c + 1)) (dn c) (15 - dn c))) 70 ev)))), (s0, .inr (6, [.ref p0, .int (nI lf), .int xn])), (p0, .inr (5, [.ref p1])), (p1, .inl (cJ, 78, .inr (.inl (gv)))), (d0, .inr (1, [.ref d1])), (d1, .inl (cI, 35, .inl (dv)))])) (va_A [(c0, .inr (0, [.ref e0, .ref h0])), (h0, .inr (2, [.long pv.1, .long pv.2])), (e0, .inr (5, [.ref e1])), (e1, .inl (cJ, 70, .inr (.inl (ev)))), (s0, .inr (6, [.ref p0, .int (nI lf), .int xn])), (p0, .inr (5, [.ref p1])), (p1, .inl (cJ, 78, .inr (.inl (gv)))), (d0, .inr (1, [.ref d1])), (d1, .inl (cI, 35, .inl (dv)))] sz)) 0 0 (va_A [(c0, .inr (0, [.ref e0, .ref h0])), (h0, .inr (2, [.long pv.1, .long pv.2])), (e0, .inr (5, [.ref e1])), (e1, .inl (cJ, 70, .inr (.inl (ev)))), (s0, .inr (6, [.ref p0, .int (nI lf), .int xn])), (p0, .inr (5, [.ref p1])), (p1, .inl (cJ, 78, .inr (.inl (gv)))), (d0, .inr (1, [.ref d1])), (d1, .inl (cI, 35, .inl (dv)))] sz) := by
  refine Met.ofW (cc := cX0_carryAllToEnds) (maxL := 6) (ret := none) (by decide) rfl ?_
  intro p e s m args below meth c s₁ B hml hv
  obtain ⟨rfl, hsz, hP, hK, hD0⟩ := hv
  have hx := B.exec
  have hb := B.bytes
  have hr := B.returns
  have hts := atoms_spec (ws := wsX0_carryAllToEnds) B.pre
  have hown : s.vm.findClass RX0 = some m.cls := findClass_of_methodNamed B.named
  have hlocks := B.notSynchronized
  subst hsz
  have hD := hD0.self (sz := s.heap.size)
  generalize hAe : va_A [(c0, .inr (0, [.ref e0, .ref h0])), (h0, .inr (2, [.long pv.1, .long pv.2])), (e0, .inr (5, [.ref e1])), (e1, .inl (cJ, 70, .inr (.inl (ev)))), (s0, .inr (6, [.ref p0, .int (nI lf), .int xn])), (p0, .inr (5, [.ref p1])), (p1, .inl (cJ, 78, .inr (.inl (gv)))), (d0, .inr (1, [.ref d1])), (d1, .inl (cI, 35, .inl (dv)))] s.heap.size = A at hD ⊢
  have hA : ∀ q : Nat, s.heap.size ≤ q → A q := fun q h => by rw [← hAe]; exact Or.inr h
  have hS : va_S A s.heap s.heap [] := va_S.rf
  have hP : va_P (dC, dI) vwCl [(c0, .inr (0, [.ref e0, .ref h0])), (h0, .inr (2, [.long pv.1, .long pv.2])), (e0, .inr (5, [.ref e1])), (e1, .inl (cJ, 70, .inr (.inl (ev)))), (s0, .inr (6, [.ref p0, .int (nI lf), .int xn])), (p0, .inr (5, [.ref p1])), (p1, .inl (cJ, 78, .inr (.inl (gv)))), (d0, .inr (1, [.ref d1])), (d1, .inl (cI, 35, .inl (dv)))] s.heap := hP
  have hl := lv_entry ([.ref c0, .long ov, .ref s0, .ref d0]) (n := 6) (Nat.le_of_ble_eq_true rfl)
  rw [lg_entry_eq]
  generalize (lg_sl ([.ref c0, .long ov, .ref s0, .ref d0]) ++ List.replicate (6 - (lg_sl ([.ref c0, .long ov, .ref s0, .ref d0])).length) Slot.unset).toArray = ls at hl ⊢
  have iX0 : ∀ w ∈ wsX00, w ∈ wsX0_carryAllToEnds := by decide +kernel
  have iX6 : ∀ w ∈ wsX60, w ∈ wsX0_carryAllToEnds := by decide +kernel
  have iX1 : ∀ w ∈ wsX10, w ∈ wsX0_carryAllToEnds := by decide +kernel
  have f14 := hts (.fieldLink RX0 14 "LeafSigner$Chains" "ends" "LLeafSigner$Pairs;") (by decide +kernel)
  have f62 := hts (.fieldLink RX0 62 "LeafSigner$Signature" "parts" "LLeafSigner$Pairs;") (by decide +kernel)
  have f71 := hts (.fieldLink RX0 71 "LeafSigner$Signature" "leaf" "I") (by decide +kernel)
  have f75 := hts (.fieldLink RX0 75 "LeafSigner$Digits" "values" "[I") (by decide +kernel)
  have hl : lv_has ls 6 [(0, .ref c0), (1, .long ov), (3, .ref s0), (4, .ref d0)] := hl
  refine lv_iconst (v := nI 0) hx hb dX0_carryAllToEnds_0 (by decide) ?_
  refine lv_istore (lv' := [(5, .int (nI 0)), (0, .ref c0), (1, .long ov), (3, .ref s0), (4, .ref d0)]) hx hb dX0_carryAllToEnds_1 hl (by decide) rfl (fun ls hl => ?_)
  have eW_1 : ([(c0, .inr (0, [.ref e0, .ref h0])), (h0, .inr (2, [.long pv.1, .long pv.2])), (e0, .inr (5, [.ref e1])), (e1, .inl (cJ, 70, .inr (.inl (ev)))), (s0, .inr (6, [.ref p0, .int (nI lf), .int xn])), (p0, .inr (5, [.ref p1])), (p1, .inl (cJ, 78, .inr (.inl (gv)))), (d0, .inr (1, [.ref d1])), (d1, .inl (cI, 35, .inl (dv)))] : va_W) = [(c0, .inr (0, [.ref e0, .ref h0])), (h0, .inr (2, [.long pv.1, .long pv.2])), (e0, .inr (5, [.ref e1])), (e1, .inl (cJ, 70, .inr (.inl (mkT (pr (fun c => cry ov lf c (gv (2 * c), gv (2 * c + 1)) (dn c) (15 - dn c))) (2 * 0) ev)))), (s0, .inr (6, [.ref p0, .int (nI lf), .int xn])), (p0, .inr (5, [.ref p1])), (p1, .inl (cJ, 78, .inr (.inl (gv)))), (d0, .inr (1, [.ref d1])), (d1, .inl (cI, 35, .inl (dv)))] := by rw [Nat.mul_zero, mkT_0]
  have hP : va_P (dC, dI) vwCl [(c0, .inr (0, [.ref e0, .ref h0])), (h0, .inr (2, [.long pv.1, .long pv.2])), (e0, .inr (5, [.ref e1])), (e1, .inl (cJ, 70, .inr (.inl (mkT (pr (fun c => cry ov lf c (gv (2 * c), gv (2 * c + 1)) (dn c) (15 - dn c))) (2 * 0) ev)))), (s0, .inr (6, [.ref p0, .int (nI lf), .int xn])), (p0, .inr (5, [.ref p1])), (p1, .inl (cJ, 78, .inr (.inl (gv)))), (d0, .inr (1, [.ref d1])), (d1, .inl (cI, 35, .inl (dv)))] s.heap := by rw [← eW_1]; exact hP
  have hD : va_D A [(c0, .inr (0, [.ref e0, .ref h0])), (h0, .inr (2, [.long pv.1, .long pv.2])), (e0, .inr (5, [.ref e1])), (e1, .inl (cJ, 70, .inr (.inl (mkT (pr (fun c => cry ov lf c (gv (2 * c), gv (2 * c + 1)) (dn c) (15 - dn c))) (2 * 0) ev)))), (s0, .inr (6, [.ref p0, .int (nI lf), .int xn])), (p0, .inr (5, [.ref p1])), (p1, .inl (cJ, 78, .inr (.inl (gv)))), (d0, .inr (1, [.ref d1])), (d1, .inl (cI, 35, .inl (dv)))] := by rw [← eW_1]; exact hD
  refine st_loop (I := fun i H locs ls => ∃ (gp : Int64 × Int64), va_P (dC, dI) vwCl [(c0, .inr (0, [.ref e0, .ref h0])), (h0, .inr (2, [.long gp.1, .long gp.2])), (e0, .inr (5, [.ref e1])), (e1, .inl (cJ, 70, .inr (.inl (mkT (pr (fun c => cry ov lf c (gv (2 * c), gv (2 * c + 1)) (dn c) (15 - dn c))) (2 * i) ev)))), (s0, .inr (6, [.ref p0, .int (nI lf), .int xn])), (p0, .inr (5, [.ref p1])), (p1, .inl (cJ, 78, .inr (.inl (gv)))), (d0, .inr (1, [.ref d1])), (d1, .inl (cI, 35, .inl (dv)))] H ∧ va_D A [(c0, .inr (0, [.ref e0, .ref h0])), (h0, .inr (2, [.long gp.1, .long gp.2])), (e0, .inr (5, [.ref e1])), (e1, .inl (cJ, 70, .inr (.inl (mkT (pr (fun c => cry ov lf c (gv (2 * c), gv (2 * c + 1)) (dn c) (15 - dn c))) (2 * i) ev)))), (s0, .inr (6, [.ref p0, .int (nI lf), .int xn])), (p0, .inr (5, [.ref p1])), (p1, .inl (cJ, 78, .inr (.inl (gv)))), (d0, .inr (1, [.ref d1])), (d1, .inl (cI, 35, .inl (dv)))] ∧ va_S A s.heap H locs ∧ lv_has ls 6 [(0, .ref c0), (1, .long ov), (3, .ref s0), (4, .ref d0), (5, .int (nI i))]) 0 35 (by omega) ⟨pv, hP, hD, hS, lv_sub hl [1, 2, 3, 4, 0] rfl⟩ (fun H locs ls hI => ?_) (fun i H locs ls hi hI ih => ?_)
  ·
    obtain ⟨gp, hP, hD, hS, hl⟩ := hI
    have hP : va_P (dC, dI) vwCl [(c0, .inr (0, [.ref e0, .ref h0])), (h0, .inr (2, [.long gp.1, .long gp.2])), (e0, .inr (5, [.ref e1])), (e1, .inl (cJ, 70, .inr (.inl (mkT (pr (fun c => cry ov lf c (gv (2 * c), gv (2 * c + 1)) (dn c) (15 - dn c))) (2 * 35) ev)))), (s0, .inr (6, [.ref p0, .int (nI lf), .int xn])), (p0, .inr (5, [.ref p1])), (p1, .inl (cJ, 78, .inr (.inl (gv)))), (d0, .inr (1, [.ref d1])), (d1, .inl (cI, 35, .inl (dv)))] H := hP
    have hD : va_D A [(c0, .inr (0, [.ref e0, .ref h0])), (h0, .inr (2, [.long gp.1, .long gp.2])), (e0, .inr (5, [.ref e1])), (e1, .inl (cJ, 70, .inr (.inl (mkT (pr (fun c => cry ov lf c (gv (2 * c), gv (2 * c + 1)) (dn c) (15 - dn c))) (2 * 35) ev)))), (s0, .inr (6, [.ref p0, .int (nI lf), .int xn])), (p0, .inr (5, [.ref p1])), (p1, .inl (cJ, 78, .inr (.inl (gv)))), (d0, .inr (1, [.ref d1])), (d1, .inl (cI, 35, .inl (dv)))] := hD
    have hl : lv_has ls 6 [(0, .ref c0), (1, .long ov), (3, .ref s0), (4, .ref d0), (5, .int (nI 35))] := hl
    refine lv_iload hx hb dX0_carryAllToEnds_3 (lv_at hl 4 rfl) ?_
    refine lv_bipush (v := nI 35) hx hb dX0_carryAllToEnds_5 (by decide) ?_
    refine lv_icmp_ge (tgt := 56) hx hb dX0_carryAllToEnds_7 (by decide) (fun c7 => ?_) (fun c7 => ?_)
    ·
      rw [q_le (by omega) (by omega)] at c7
      have eW_2 : ([(c0, .inr (0, [.ref e0, .ref h0])), (h0, .inr (2, [.long gp.1, .long gp.2])), (e0, .inr (5, [.ref e1])), (e1, .inl (cJ, 70, .inr (.inl (mkT (pr (fun c => cry ov lf c (gv (2 * c), gv (2 * c + 1)) (dn c) (15 - dn c))) (2 * 35) ev)))), (s0, .inr (6, [.ref p0, .int (nI lf), .int xn])), (p0, .inr (5, [.ref p1])), (p1, .inl (cJ, 78, .inr (.inl (gv)))), (d0, .inr (1, [.ref d1])), (d1, .inl (cI, 35, .inl (dv)))] : va_W) = [(c0, .inr (0, [.ref e0, .ref h0])), (h0, .inr (2, [.long gp.1, .long gp.2])), (e0, .inr (5, [.ref e1])), (e1, .inl (cJ, 70, .inr (.inl (mkT (pr (fun c => cry ov lf c (gv (2 * c), gv (2 * c + 1)) (dn c) (15 - dn c))) 70 ev)))), (s0, .inr (6, [.ref p0, .int (nI lf), .int xn])), (p0, .inr (5, [.ref p1])), (p1, .inl (cJ, 78, .inr (.inl (gv)))), (d0, .inr (1, [.ref d1])), (d1, .inl (cI, 35, .inl (dv)))] := rfl
      have hP : va_P (dC, dI) vwCl [(c0, .inr (0, [.ref e0, .ref h0])), (h0, .inr (2, [.long gp.1, .long gp.2])), (e0, .inr (5, [.ref e1])), (e1, .inl (cJ, 70, .inr (.inl (mkT (pr (fun c => cry ov lf c (gv (2 * c), gv (2 * c + 1)) (dn c) (15 - dn c))) 70 ev)))), (s0, .inr (6, [.ref p0, .int (nI lf), .int xn])), (p0, .inr (5, [.ref p1])), (p1, .inl (cJ, 78, .inr (.inl (gv)))), (d0, .inr (1, [.ref d1])), (d1, .inl (cI, 35, .inl (dv)))] H := by rw [← eW_2]; exact hP
      have hD : va_D A [(c0, .inr (0, [.ref e0, .ref h0])), (h0, .inr (2, [.long gp.1, .long gp.2])), (e0, .inr (5, [.ref e1])), (e1, .inl (cJ, 70, .inr (.inl (mkT (pr (fun c => cry ov lf c (gv (2 * c), gv (2 * c + 1)) (dn c) (15 - dn c))) 70 ev)))), (s0, .inr (6, [.ref p0, .int (nI lf), .int xn])), (p0, .inr (5, [.ref p1])), (p1, .inl (cJ, 78, .inr (.inl (gv)))), (d0, .inr (1, [.ref d1])), (d1, .inl (cI, 35, .inl (dv)))] := by rw [← eW_2]; exact hD
      exact W.vret hx hb hr (fun t ht hW => ⟨⟨gp, rfl, trivial, by rw [ht]; exact hP, va_K.moved hW.alike hK, hD⟩, hS.F ht⟩) hS.2.2 dX0_carryAllToEnds_56
    ·
      rw [q_le (by omega) (by omega)] at c7
      exact absurd c7 (by omega)
  ·
    obtain ⟨gp, hP, hD, hS, hl⟩ := hI
    have hP : va_P (dC, dI) vwCl [(c0, .inr (0, [.ref e0, .ref h0])), (h0, .inr (2, [.long gp.1, .long gp.2])), (e0, .inr (5, [.ref e1])), (e1, .inl (cJ, 70, .inr (.inl (mkT (pr (fun c => cry ov lf c (gv (2 * c), gv (2 * c + 1)) (dn c) (15 - dn c))) (2 * i) ev)))), (s0, .inr (6, [.ref p0, .int (nI lf), .int xn])), (p0, .inr (5, [.ref p1])), (p1, .inl (cJ, 78, .inr (.inl (gv)))), (d0, .inr (1, [.ref d1])), (d1, .inl (cI, 35, .inl (dv)))] H := hP
    have hD : va_D A [(c0, .inr (0, [.ref e0, .ref h0])), (h0, .inr (2, [.long gp.1, .long gp.2])), (e0, .inr (5, [.ref e1])), (e1, .inl (cJ, 70, .inr (.inl (mkT (pr (fun c => cry ov lf c (gv (2 * c), gv (2 * c + 1)) (dn c) (15 - dn c))) (2 * i) ev)))), (s0, .inr (6, [.ref p0, .int (nI lf), .int xn])), (p0, .inr (5, [.ref p1])), (p1, .inl (cJ, 78, .inr (.inl (gv)))), (d0, .inr (1, [.ref d1])), (d1, .inl (cI, 35, .inl (dv)))] := hD
    have hl : lv_has ls 6 [(0, .ref c0), (1, .long ov), (3, .ref s0), (4, .ref d0), (5, .int (nI i))] := hl
    refine lv_iload hx hb dX0_carryAllToEnds_3 (lv_at hl 4 rfl) ?_
    refine lv_bipush (v := nI 35) hx hb dX0_carryAllToEnds_5 (by decide) ?_
    refine lv_icmp_ge (tgt := 56) hx hb dX0_carryAllToEnds_7 (by decide) (fun c7 => ?_) (fun c7 => ?_)
    ·
      rw [q_le (by omega) (by omega)] at c7
      exact absurd c7 (by omega)
    ·
      rw [q_le (by omega) (by omega)] at c7
      refine lv_aload_n hx hb dX0_carryAllToEnds_10 rfl (lv_at hl 0 rfl) ?_
      refine va_get (D := (dC, dI)) (ci := 0) (v := .ref e0) (C := RX0) (T := TX0) (N := 2) hx hb hts iX0 hown hK hP 0 rfl rfl 0 (by decide) f14 (fun _ h9 => h9) rfl dX0_carryAllToEnds_11 ?_
      refine lv_iload hx hb dX0_carryAllToEnds_14 (lv_at hl 4 rfl) ?_
      refine lv_aload_n hx hb dX0_carryAllToEnds_16 rfl (lv_at hl 2 rfl) ?_
      refine va_get (D := (dC, dI)) (ci := 6) (v := .ref p0) (C := RX6) (T := TX6) (N := 3) hx hb hts iX6 hown hK hP 4 rfl rfl 0 (by decide) f62 (fun _ h9 => h9) rfl dX0_carryAllToEnds_17 ?_
      refine lv_iload hx hb dX0_carryAllToEnds_20 (lv_at hl 4 rfl) ?_
      refine st_callv (va_runV (As := [.int (nI i), .ref p0, .int (nI i)]) (rest := []) ⟨hx, hb, hml, hown, hts⟩ (c_Pairs_copy l dC dI cJ cI e0 e1 p0 p1 70 78 (mkT (pr (fun c => cry ov lf c (gv (2 * c), gv (2 * c + 1)) (dn c) (15 - dn c))) (2 * i) ev) gv i i (by omega) (by omega) (by omega) (by omega) H.size) (cwV 3 hts gX0_carryAllToEnds_X5_copy rfl rfl rfl (by decide +kernel) ⟨Nat.le_of_ble_eq_true rfl, Nat.le_of_ble_eq_true rfl⟩) (st_preV hK hP hD [2, 3, 5, 6] rfl rfl (ci := 5) (q0 := 0) rfl rfl) rfl rfl hl.1 rfl (lv_room (Nat.le_of_ble_eq_true rfl)) dX0_carryAllToEnds_22 ⟨Nat.le_of_ble_eq_true rfl, Nat.le_of_ble_eq_true rfl⟩) hP hD hS hA [2, 3, 5, 6] [0, 1, 4, 7, 8] (wr := [(c0, .inr (0, [.ref e0, .ref h0])), (h0, .inr (2, [.long gp.1, .long gp.2])), (s0, .inr (6, [.ref p0, .int (nI lf), .int xn])), (d0, .inr (1, [.ref d1])), (d1, .inl (cI, 35, .inl (dv)))]) rfl rfl (by decide) (by decide) [0, 1, 5, 6, 2, 7, 8, 3, 4] (res := fun _ => [(c0, .inr (0, [.ref e0, .ref h0])), (h0, .inr (2, [.long gp.1, .long gp.2])), (e0, .inr (5, [.ref e1])), (e1, .inl (cJ, 70, .inr (.inl (setP (mkT (pr (fun c => cry ov lf c (gv (2 * c), gv (2 * c + 1)) (dn c) (15 - dn c))) (2 * i) ev) i (gv (2 * i), gv (2 * i + 1)))))), (s0, .inr (6, [.ref p0, .int (nI lf), .int xn])), (p0, .inr (5, [.ref p1])), (p1, .inl (cJ, 78, .inr (.inl (gv)))), (d0, .inr (1, [.ref d1])), (d1, .inl (cI, 35, .inl (dv)))]) (fun _ => rfl) (by decide) (fun  _ H locs hu hP hD hS => ?_)
      have hP : va_P (dC, dI) vwCl [(c0, .inr (0, [.ref e0, .ref h0])), (h0, .inr (2, [.long gp.1, .long gp.2])), (e0, .inr (5, [.ref e1])), (e1, .inl (cJ, 70, .inr (.inl (setP (mkT (pr (fun c => cry ov lf c (gv (2 * c), gv (2 * c + 1)) (dn c) (15 - dn c))) (2 * i) ev) i (gv (2 * i), gv (2 * i + 1)))))), (s0, .inr (6, [.ref p0, .int (nI lf), .int xn])), (p0, .inr (5, [.ref p1])), (p1, .inl (cJ, 78, .inr (.inl (gv)))), (d0, .inr (1, [.ref d1])), (d1, .inl (cI, 35, .inl (dv)))] H := hP
      have hD : va_D A [(c0, .inr (0, [.ref e0, .ref h0])), (h0, .inr (2, [.long gp.1, .long gp.2])), (e0, .inr (5, [.ref e1])), (e1, .inl (cJ, 70, .inr (.inl (setP (mkT (pr (fun c => cry ov lf c (gv (2 * c), gv (2 * c + 1)) (dn c) (15 - dn c))) (2 * i) ev) i (gv (2 * i), gv (2 * i + 1)))))), (s0, .inr (6, [.ref p0, .int (nI lf), .int xn])), (p0, .inr (5, [.ref p1])), (p1, .inl (cJ, 78, .inr (.inl (gv)))), (d0, .inr (1, [.ref d1])), (d1, .inl (cI, 35, .inl (dv)))] := hD
      refine lv_aload_n hx hb dX0_carryAllToEnds_25 rfl (lv_at hl 0 rfl) ?_
      refine lv_lload_n hx hb dX0_carryAllToEnds_26 rfl (lv_at hl 1 rfl) ?_
      refine lv_aload_n hx hb dX0_carryAllToEnds_27 rfl (lv_at hl 2 rfl) ?_
      refine va_get (D := (dC, dI)) (ci := 6) (v := .int (nI lf)) (C := RX6) (T := TX6) (N := 3) hx hb hts iX6 hown hK hP 4 rfl rfl 1 (by decide) f71 (fun _ h9 => h9) rfl dX0_carryAllToEnds_28 ?_
      refine lv_iload hx hb dX0_carryAllToEnds_31 (lv_at hl 4 rfl) ?_
      refine lv_aload hx hb dX0_carryAllToEnds_33 (lv_at hl 3 rfl) ?_
      refine va_get (D := (dC, dI)) (ci := 1) (v := .ref d1) (C := RX1) (T := TX1) (N := 1) hx hb hts iX1 hown hK hP 7 rfl rfl 0 (by decide) f75 (fun _ h9 => h9) rfl dX0_carryAllToEnds_35 ?_
      refine lv_iload hx hb dX0_carryAllToEnds_38 (lv_at hl 4 rfl) ?_
      refine st_iald hx hb hK hP 8 1 rfl rfl i rfl (by omega) (by omega) dX0_carryAllToEnds_40 ?_
      refine st_i (y := nI (dn i)) ((hdn i hi).1) ?_
      have hdi := (hdn i hi).2
      refine lv_bipush (v := nI 15) hx hb dX0_carryAllToEnds_41 (by decide) ?_
      refine lv_aload_n hx hb dX0_carryAllToEnds_43 rfl (lv_at hl 0 rfl) ?_
      refine va_get (D := (dC, dI)) (ci := 0) (v := .ref e0) (C := RX0) (T := TX0) (N := 2) hx hb hts iX0 hown hK hP 0 rfl rfl 0 (by decide) f14 (fun _ h9 => h9) rfl dX0_carryAllToEnds_44 ?_
      refine st_callv (va_runV (As := [.long ov, .int (nI lf), .int (nI i), .int (nI (dn i)), .int (nI 15), .ref e0]) (rest := []) ⟨hx, hb, hml, hown, hts⟩ (c_Chains_carry l dC dI cJ cI c0 e0 h0 e0 e1 gp ov 70 lf i (dn i) 15 (setP (mkT (pr (fun c => cry ov lf c (gv (2 * c), gv (2 * c + 1)) (dn c) (15 - dn c))) (2 * i) ev) i (gv (2 * i), gv (2 * i + 1))) (by omega) (by omega) (by omega) (by omega) (by omega) H.size) (cwV 6 hts gX0_carryAllToEnds_X0_carry rfl rfl rfl (by decide +kernel) ⟨Nat.le_of_ble_eq_true rfl, Nat.le_of_ble_eq_true rfl⟩) (st_preV hK hP hD [0, 1, 2, 3] rfl rfl (ci := 0) (q0 := 0) rfl rfl) rfl rfl hl.1 rfl (lv_room (Nat.le_of_ble_eq_true rfl)) dX0_carryAllToEnds_47 ⟨Nat.le_of_ble_eq_true rfl, Nat.le_of_ble_eq_true rfl⟩) hP hD hS hA [0, 1, 2, 3] [4, 5, 6, 7, 8] (wr := [(s0, .inr (6, [.ref p0, .int (nI lf), .int xn])), (p0, .inr (5, [.ref p1])), (p1, .inl (cJ, 78, .inr (.inl (gv)))), (d0, .inr (1, [.ref d1])), (d1, .inl (cI, 35, .inl (dv)))]) rfl rfl (by decide) (by decide) [5, 6, 7, 8, 0, 1, 2, 3, 4] (res := fun u_3 => [(c0, .inr (0, [.ref e0, .ref h0])), (h0, .inr (2, [.long u_3.1, .long u_3.2])), (e0, .inr (5, [.ref e1])), (e1, .inl (cJ, 70, .inr (.inl (setP (setP (mkT (pr (fun c => cry ov lf c (gv (2 * c), gv (2 * c + 1)) (dn c) (15 - dn c))) (2 * i) ev) i (gv (2 * i), gv (2 * i + 1))) i (cry ov lf i ((setP (mkT (pr (fun c => cry ov lf c (gv (2 * c), gv (2 * c + 1)) (dn c) (15 - dn c))) (2 * i) ev) i (gv (2 * i), gv (2 * i + 1))) (2 * i), (setP (mkT (pr (fun c => cry ov lf c (gv (2 * c), gv (2 * c + 1)) (dn c) (15 - dn c))) (2 * i) ev) i (gv (2 * i), gv (2 * i + 1))) (2 * i + 1)) (dn i) (15 - (dn i))))))), (s0, .inr (6, [.ref p0, .int (nI lf), .int xn])), (p0, .inr (5, [.ref p1])), (p1, .inl (cJ, 78, .inr (.inl (gv)))), (d0, .inr (1, [.ref d1])), (d1, .inl (cI, 35, .inl (dv)))]) (fun _ => rfl) (by decide) (fun  u_3 H locs hu hP hD hS => ?_)
      have hP : va_P (dC, dI) vwCl [(c0, .inr (0, [.ref e0, .ref h0])), (h0, .inr (2, [.long u_3.1, .long u_3.2])), (e0, .inr (5, [.ref e1])), (e1, .inl (cJ, 70, .inr (.inl (setP (setP (mkT (pr (fun c => cry ov lf c (gv (2 * c), gv (2 * c + 1)) (dn c) (15 - dn c))) (2 * i) ev) i (gv (2 * i), gv (2 * i + 1))) i (cry ov lf i ((setP (mkT (pr (fun c => cry ov lf c (gv (2 * c), gv (2 * c + 1)) (dn c) (15 - dn c))) (2 * i) ev) i (gv (2 * i), gv (2 * i + 1))) (2 * i), (setP (mkT (pr (fun c => cry ov lf c (gv (2 * c), gv (2 * c + 1)) (dn c) (15 - dn c))) (2 * i) ev) i (gv (2 * i), gv (2 * i + 1))) (2 * i + 1)) (dn i) (15 - (dn i))))))), (s0, .inr (6, [.ref p0, .int (nI lf), .int xn])), (p0, .inr (5, [.ref p1])), (p1, .inl (cJ, 78, .inr (.inl (gv)))), (d0, .inr (1, [.ref d1])), (d1, .inl (cI, 35, .inl (dv)))] H := hP
      have hD : va_D A [(c0, .inr (0, [.ref e0, .ref h0])), (h0, .inr (2, [.long u_3.1, .long u_3.2])), (e0, .inr (5, [.ref e1])), (e1, .inl (cJ, 70, .inr (.inl (setP (setP (mkT (pr (fun c => cry ov lf c (gv (2 * c), gv (2 * c + 1)) (dn c) (15 - dn c))) (2 * i) ev) i (gv (2 * i), gv (2 * i + 1))) i (cry ov lf i ((setP (mkT (pr (fun c => cry ov lf c (gv (2 * c), gv (2 * c + 1)) (dn c) (15 - dn c))) (2 * i) ev) i (gv (2 * i), gv (2 * i + 1))) (2 * i), (setP (mkT (pr (fun c => cry ov lf c (gv (2 * c), gv (2 * c + 1)) (dn c) (15 - dn c))) (2 * i) ev) i (gv (2 * i), gv (2 * i + 1))) (2 * i + 1)) (dn i) (15 - (dn i))))))), (s0, .inr (6, [.ref p0, .int (nI lf), .int xn])), (p0, .inr (5, [.ref p1])), (p1, .inl (cJ, 78, .inr (.inl (gv)))), (d0, .inr (1, [.ref d1])), (d1, .inl (cI, 35, .inl (dv)))] := hD
      have hu_4 := hu
      refine lv_iinc (v := nI (i + 1)) (lv' := [(5, .int (nI (i + 1))), (0, .ref c0), (1, .long ov), (3, .ref s0), (4, .ref d0)]) hx hb dX0_carryAllToEnds_50 hl (k := 4) rfl (st_inc i 1 (by decide)) (by decide) rfl (fun ls hl => ?_)
      refine lv_goto (tgt := 3) hx hb dX0_carryAllToEnds_53 (by decide) ?_
      have eW_5 : ([(c0, .inr (0, [.ref e0, .ref h0])), (h0, .inr (2, [.long u_3.1, .long u_3.2])), (e0, .inr (5, [.ref e1])), (e1, .inl (cJ, 70, .inr (.inl (setP (setP (mkT (pr (fun c => cry ov lf c (gv (2 * c), gv (2 * c + 1)) (dn c) (15 - dn c))) (2 * i) ev) i (gv (2 * i), gv (2 * i + 1))) i (cry ov lf i ((setP (mkT (pr (fun c => cry ov lf c (gv (2 * c), gv (2 * c + 1)) (dn c) (15 - dn c))) (2 * i) ev) i (gv (2 * i), gv (2 * i + 1))) (2 * i), (setP (mkT (pr (fun c => cry ov lf c (gv (2 * c), gv (2 * c + 1)) (dn c) (15 - dn c))) (2 * i) ev) i (gv (2 * i), gv (2 * i + 1))) (2 * i + 1)) (dn i) (15 - (dn i))))))), (s0, .inr (6, [.ref p0, .int (nI lf), .int xn])), (p0, .inr (5, [.ref p1])), (p1, .inl (cJ, 78, .inr (.inl (gv)))), (d0, .inr (1, [.ref d1])), (d1, .inl (cI, 35, .inl (dv)))] : va_W) = [(c0, .inr (0, [.ref e0, .ref h0])), (h0, .inr (2, [.long u_3.1, .long u_3.2])), (e0, .inr (5, [.ref e1])), (e1, .inl (cJ, 70, .inr (.inl (mkT (pr (fun c => cry ov lf c (gv (2 * c), gv (2 * c + 1)) (dn c) (15 - dn c))) (2 * (i + 1)) ev)))), (s0, .inr (6, [.ref p0, .int (nI lf), .int xn])), (p0, .inr (5, [.ref p1])), (p1, .inl (cJ, 78, .inr (.inl (gv)))), (d0, .inr (1, [.ref d1])), (d1, .inl (cI, 35, .inl (dv)))] := by rw [← mkT_setP, setP_setP, setP_1, setP_2] <;> rfl
      have hP : va_P (dC, dI) vwCl [(c0, .inr (0, [.ref e0, .ref h0])), (h0, .inr (2, [.long u_3.1, .long u_3.2])), (e0, .inr (5, [.ref e1])), (e1, .inl (cJ, 70, .inr (.inl (mkT (pr (fun c => cry ov lf c (gv (2 * c), gv (2 * c + 1)) (dn c) (15 - dn c))) (2 * (i + 1)) ev)))), (s0, .inr (6, [.ref p0, .int (nI lf), .int xn])), (p0, .inr (5, [.ref p1])), (p1, .inl (cJ, 78, .inr (.inl (gv)))), (d0, .inr (1, [.ref d1])), (d1, .inl (cI, 35, .inl (dv)))] H := by rw [← eW_5]; exact hP
      have hD : va_D A [(c0, .inr (0, [.ref e0, .ref h0])), (h0, .inr (2, [.long u_3.1, .long u_3.2])), (e0, .inr (5, [.ref e1])), (e1, .inl (cJ, 70, .inr (.inl (mkT (pr (fun c => cry ov lf c (gv (2 * c), gv (2 * c + 1)) (dn c) (15 - dn c))) (2 * (i + 1)) ev)))), (s0, .inr (6, [.ref p0, .int (nI lf), .int xn])), (p0, .inr (5, [.ref p1])), (p1, .inl (cJ, 78, .inr (.inl (gv)))), (d0, .inr (1, [.ref d1])), (d1, .inl (cI, 35, .inl (dv)))] := by rw [← eW_5]; exact hD
      exact ih _ _ _ ⟨u_3, hP, hD, hS, lv_sub hl [1, 2, 3, 4, 0] rfl⟩
end
section
set_option maxHeartbeats 4000000 in
set_option maxRecDepth 100000 in
theorem c_Tree_hashNode (l : Launch) (dC : Nat → ClassId) (dI : Nat → Nat → Nat) (cJ cI : ClassId) (t0 n0 n1 k0 h0 : Nat) (pv : Int64 × Int64) (w1 w2 ov : Int64) (hh lv iv : Nat) (xm : Int32) (nf : Nat → Int64) (h4 : hh ≤ 4) (hl1 : 1 ≤ lv) (hlh : lv ≤ hh) (hiv : 2 ^ (hh - (lv - 1)) + (2 * iv + 1) < 32) (sz : Nat) : Met l yX7_hashNode wsX7_hashNode ({ frames := 3, cells := 0, slots := 0, locals := 71 }) (va_Pc [.ref t0, .ref k0, .int (nI lv), .int (nI iv), .ref h0] (st_B (dC, dI) vwCl [(cJ, .long), (cI, .int)] [(t0, .inr (7, [.ref n0, .int xm])), (n0, .inr (5, [.ref n1])), (n1, .inl (cJ, 64, .inr (.inl (nf)))), (k0, .inr (3, [.long w1, .long w2, .long ov, .int (nI hh)])), (h0, .inr (2, [.long pv.1, .long pv.2]))] sz)) (va_Qv (fun _ : Unit => True) (st_E (dC, dI) vwCl [(cJ, .long), (cI, .int)] (va_A [(t0, .inr (7, [.ref n0, .int xm])), (n0, .inr (5, [.ref n1])), (n1, .inl (cJ, 64, .inr (.inl (nf)))), (k0, .inr (3, [.long w1, .long w2, .long ov, .int (nI hh)])), (h0, .inr (2, [.long pv.1, .long pv.2]))] sz) (fun _ => [(t0, .inr (7, [.ref n0, .int xm])), (n0, .inr (5, [.ref n1])), (n1, .inl (cJ, 64, .inr (.inl (nf)))), (k0, .inr (3, [.long w1, .long w2, .long ov, .int (nI hh)])), (h0, .inr (2, [.long ((nd ov lv iv (nf (2 * (2 ^ (hh - (lv - 1)) + 2 * iv)), nf (2 * (2 ^ (hh - (lv - 1)) + 2 * iv) + 1)) (nf (2 * (2 ^ (hh - (lv - 1)) + (2 * iv + 1))), nf (2 * (2 ^ (hh - (lv - 1)) + (2 * iv + 1)) + 1))).1), .long ((nd ov lv iv (nf (2 * (2 ^ (hh - (lv - 1)) + 2 * iv)), nf (2 * (2 ^ (hh - (lv - 1)) + 2 * iv) + 1)) (nf (2 * (2 ^ (hh - (lv - 1)) + (2 * iv + 1))), nf (2 * (2 ^ (hh - (lv - 1)) + (2 * iv + 1)) + 1))).2)]))])) (va_A [(t0, .inr (7, [.ref n0, .int xm])), (n0, .inr (5, [.ref n1])), (n1, .inl (cJ, 64, .inr (.inl (nf)))), (k0, .inr (3, [.long w1, .long w2, .long ov, .int (nI hh)])), (h0, .inr (2, [.long pv.1, .long pv.2]))] sz)) 0 0 (va_A [(t0, .inr (7, [.ref n0, .int xm])), (n0, .inr (5, [.ref n1])), (n1, .inl (cJ, 64, .inr (.inl (nf)))), (k0, .inr (3, [.long w1, .long w2, .long ov, .int (nI hh)])), (h0, .inr (2, [.long pv.1, .long pv.2]))] sz) := by
  refine Met.ofW (cc := cX7_hashNode) (maxL := 5) (ret := none) (by decide) rfl ?_
  intro p e s m args below meth c s₁ B hml hv
  obtain ⟨rfl, hsz, hP, hK, hD0⟩ := hv
  have hx := B.exec
  have hb := B.bytes
  have hr := B.returns
  have hts := atoms_spec (ws := wsX7_hashNode) B.pre
  have hown : s.vm.findClass RX7 = some m.cls := findClass_of_methodNamed B.named
  have hlocks := B.notSynchronized
  subst hsz
  have hD := hD0.self (sz := s.heap.size)
  generalize hAe : va_A [(t0, .inr (7, [.ref n0, .int xm])), (n0, .inr (5, [.ref n1])), (n1, .inl (cJ, 64, .inr (.inl (nf)))), (k0, .inr (3, [.long w1, .long w2, .long ov, .int (nI hh)])), (h0, .inr (2, [.long pv.1, .long pv.2]))] s.heap.size = A at hD ⊢
  have hA : ∀ q : Nat, s.heap.size ≤ q → A q := fun q h => by rw [← hAe]; exact Or.inr h
  have hS : va_S A s.heap s.heap [] := va_S.rf
  have hP : va_P (dC, dI) vwCl [(t0, .inr (7, [.ref n0, .int xm])), (n0, .inr (5, [.ref n1])), (n1, .inl (cJ, 64, .inr (.inl (nf)))), (k0, .inr (3, [.long w1, .long w2, .long ov, .int (nI hh)])), (h0, .inr (2, [.long pv.1, .long pv.2]))] s.heap := hP
  have hl := lv_entry ([.ref t0, .ref k0, .int (nI lv), .int (nI iv), .ref h0]) (n := 5) (Nat.le_of_ble_eq_true rfl)
  rw [lg_entry_eq]
  generalize (lg_sl ([.ref t0, .ref k0, .int (nI lv), .int (nI iv), .ref h0]) ++ List.replicate (5 - (lg_sl ([.ref t0, .ref k0, .int (nI lv), .int (nI iv), .ref h0])).length) Slot.unset).toArray = ls at hl ⊢
  have iX3 : ∀ w ∈ wsX30, w ∈ wsX7_hashNode := by decide +kernel
  have iX7 : ∀ w ∈ wsX70, w ∈ wsX7_hashNode := by decide +kernel
  have f43 := hts (.fieldLink RX7 43 "LeafSigner$Keys" "open" "J") (by decide +kernel)
  have f14 := hts (.fieldLink RX7 14 "LeafSigner$Tree" "nodes" "LLeafSigner$Pairs;") (by decide +kernel)
  have f24 := hts (.fieldLink RX7 24 "LeafSigner$Keys" "height" "I") (by decide +kernel)
  have hl : lv_has ls 5 [(0, .ref t0), (1, .ref k0), (2, .int (nI lv)), (3, .int (nI iv)), (4, .ref h0)] := hl
  have hpA := Nat.two_pow_pos (hh - (lv - 1))
  refine lv_aload hx hb dX7_hashNode_0 (lv_at hl 4 rfl) ?_
  refine lv_aload_n hx hb dX7_hashNode_2 rfl (lv_at hl 1 rfl) ?_
  refine va_get (D := (dC, dI)) (ci := 3) (v := .long ov) (C := RX3) (T := TX3) (N := 4) hx hb hts iX3 hown hK hP 3 rfl rfl 2 (by decide) f43 (fun _ h9 => h9) rfl dX7_hashNode_3 ?_
  refine lv_iload_n hx hb dX7_hashNode_6 rfl (lv_at hl 2 rfl) ?_
  refine lv_iload_n hx hb dX7_hashNode_7 rfl (lv_at hl 3 rfl) ?_
  refine st_callv (va_runV (As := [.long ov, .int (nI lv), .int (nI iv)]) (rest := []) ⟨hx, hb, hml, hown, hts⟩ (c_Hasher_startNode l dC dI cJ cI h0 pv ov lv iv (by omega) (by omega) s.heap.size) (cwV 3 hts gX7_hashNode_X2_startNode rfl rfl rfl (by decide +kernel) ⟨Nat.le_of_ble_eq_true rfl, Nat.le_of_ble_eq_true rfl⟩) (st_preV hK hP hD [4] rfl rfl (ci := 2) (q0 := 0) rfl rfl) rfl rfl hl.1 rfl (lv_room (Nat.le_of_ble_eq_true rfl)) dX7_hashNode_8 ⟨Nat.le_of_ble_eq_true rfl, Nat.le_of_ble_eq_true rfl⟩) hP hD hS hA [4] [0, 1, 2, 3] (wr := [(t0, .inr (7, [.ref n0, .int xm])), (n0, .inr (5, [.ref n1])), (n1, .inl (cJ, 64, .inr (.inl (nf)))), (k0, .inr (3, [.long w1, .long w2, .long ov, .int (nI hh)]))]) rfl rfl (by decide) (by decide) [0, 1, 2, 3, 4] (res := fun _ => [(t0, .inr (7, [.ref n0, .int xm])), (n0, .inr (5, [.ref n1])), (n1, .inl (cJ, 64, .inr (.inl (nf)))), (k0, .inr (3, [.long w1, .long w2, .long ov, .int (nI hh)])), (h0, .inr (2, [.long ((ha (ha (ha (lN 4, lN 7) ov) (lN lv)) (lN iv)).1), .long ((ha (ha (ha (lN 4, lN 7) ov) (lN lv)) (lN iv)).2)]))]) (fun _ => rfl) (by decide) (fun  _ H locs hu hP hD hS => ?_)
  have hP : va_P (dC, dI) vwCl [(t0, .inr (7, [.ref n0, .int xm])), (n0, .inr (5, [.ref n1])), (n1, .inl (cJ, 64, .inr (.inl (nf)))), (k0, .inr (3, [.long w1, .long w2, .long ov, .int (nI hh)])), (h0, .inr (2, [.long ((ha (ha (ha (lN 4, lN 7) ov) (lN lv)) (lN iv)).1), .long ((ha (ha (ha (lN 4, lN 7) ov) (lN lv)) (lN iv)).2)]))] H := hP
  have hD : va_D A [(t0, .inr (7, [.ref n0, .int xm])), (n0, .inr (5, [.ref n1])), (n1, .inl (cJ, 64, .inr (.inl (nf)))), (k0, .inr (3, [.long w1, .long w2, .long ov, .int (nI hh)])), (h0, .inr (2, [.long ((ha (ha (ha (lN 4, lN 7) ov) (lN lv)) (lN iv)).1), .long ((ha (ha (ha (lN 4, lN 7) ov) (lN lv)) (lN iv)).2)]))] := hD
  refine lv_aload hx hb dX7_hashNode_11 (lv_at hl 4 rfl) ?_
  refine lv_aload_n hx hb dX7_hashNode_13 rfl (lv_at hl 0 rfl) ?_
  refine va_get (D := (dC, dI)) (ci := 7) (v := .ref n0) (C := RX7) (T := TX7) (N := 2) hx hb hts iX7 hown hK hP 0 rfl rfl 0 (by decide) f14 (fun _ h9 => h9) rfl dX7_hashNode_14 ?_
  refine lv_aload_n hx hb dX7_hashNode_17 rfl (lv_at hl 1 rfl) ?_
  refine va_get (D := (dC, dI)) (ci := 3) (v := .int (nI hh)) (C := RX3) (T := TX3) (N := 4) hx hb hts iX3 hown hK hP 3 rfl rfl 3 (by decide) f24 (fun _ h9 => h9) rfl dX7_hashNode_18 ?_
  refine lv_iload_n hx hb dX7_hashNode_21 rfl (lv_at hl 2 rfl) ?_
  refine lv_iconst (v := nI 1) hx hb dX7_hashNode_22 (by decide) ?_
  refine lv_isub hx hb dX7_hashNode_23 ?_
  refine st_i (y := nI (lv - 1)) (pk_sub (by omega)) ?_
  refine lv_iconst (v := nI 2) hx hb dX7_hashNode_24 (by decide) ?_
  refine lv_iload_n hx hb dX7_hashNode_25 rfl (lv_at hl 3 rfl) ?_
  refine lv_imul hx hb dX7_hashNode_26 ?_
  refine st_i (y := nI (2 * iv)) (pk_mul 2 iv) ?_
  refine st_calli (va_runS (As := [.int (nI hh), .int (nI (lv - 1)), .int (nI (2 * iv))]) (rest := [.ref n0, .ref h0]) ⟨hx, hb, hml, hown, hts⟩ (c_Tree_slot l dC dI cJ cI  hh (lv - 1) (2 * iv) (by omega) (by omega) H.size) (va_cwS 3 hts gX7_hashNode_X7_slot rfl rfl rfl (by decide +kernel) ⟨Nat.le_of_ble_eq_true rfl, Nat.le_of_ble_eq_true rfl⟩) (st_preS hK hP hD [] rfl rfl) rfl rfl hl.1 rfl (lv_room (Nat.le_of_ble_eq_true rfl)) dX7_hashNode_27 ⟨Nat.le_of_ble_eq_true rfl, Nat.le_of_ble_eq_true rfl⟩) hP hD hS hA [] [0, 1, 2, 3, 4] (wr := [(t0, .inr (7, [.ref n0, .int xm])), (n0, .inr (5, [.ref n1])), (n1, .inl (cJ, 64, .inr (.inl (nf)))), (k0, .inr (3, [.long w1, .long w2, .long ov, .int (nI hh)])), (h0, .inr (2, [.long ((ha (ha (ha (lN 4, lN 7) ov) (lN lv)) (lN iv)).1), .long ((ha (ha (ha (lN 4, lN 7) ov) (lN lv)) (lN iv)).2)]))]) rfl rfl (by decide) (by decide) [0, 1, 2, 3, 4] (res := fun _ => [(t0, .inr (7, [.ref n0, .int xm])), (n0, .inr (5, [.ref n1])), (n1, .inl (cJ, 64, .inr (.inl (nf)))), (k0, .inr (3, [.long w1, .long w2, .long ov, .int (nI hh)])), (h0, .inr (2, [.long ((ha (ha (ha (lN 4, lN 7) ov) (lN lv)) (lN iv)).1), .long ((ha (ha (ha (lN 4, lN 7) ov) (lN lv)) (lN iv)).2)]))]) (fun _ => rfl) (by decide) (fun r_1 _ H locs hu hP hD hS => ?_)
  have hP : va_P (dC, dI) vwCl [(t0, .inr (7, [.ref n0, .int xm])), (n0, .inr (5, [.ref n1])), (n1, .inl (cJ, 64, .inr (.inl (nf)))), (k0, .inr (3, [.long w1, .long w2, .long ov, .int (nI hh)])), (h0, .inr (2, [.long ((ha (ha (ha (lN 4, lN 7) ov) (lN lv)) (lN iv)).1), .long ((ha (ha (ha (lN 4, lN 7) ov) (lN lv)) (lN iv)).2)]))] H := hP
  have hD : va_D A [(t0, .inr (7, [.ref n0, .int xm])), (n0, .inr (5, [.ref n1])), (n1, .inl (cJ, 64, .inr (.inl (nf)))), (k0, .inr (3, [.long w1, .long w2, .long ov, .int (nI hh)])), (h0, .inr (2, [.long ((ha (ha (ha (lN 4, lN 7) ov) (lN lv)) (lN iv)).1), .long ((ha (ha (ha (lN 4, lN 7) ov) (lN lv)) (lN iv)).2)]))] := hD
  subst hu
  refine st_callv (va_runV (As := [.ref n0, .int (nI (2 ^ (hh - (lv - 1)) + (2 * iv)))]) (rest := []) ⟨hx, hb, hml, hown, hts⟩ (c_Hasher_addPair l dC dI cJ cI h0 n0 n1 (ha (ha (ha (lN 4, lN 7) ov) (lN lv)) (lN iv)) 64 nf (2 ^ (hh - (lv - 1)) + (2 * iv)) (by omega) (by omega) H.size) (cwV 2 hts gX7_hashNode_X2_addPair rfl rfl rfl (by decide +kernel) ⟨Nat.le_of_ble_eq_true rfl, Nat.le_of_ble_eq_true rfl⟩) (st_preV hK hP hD [4, 1, 2] rfl rfl (ci := 2) (q0 := 0) rfl rfl) rfl rfl hl.1 rfl (lv_room (Nat.le_of_ble_eq_true rfl)) dX7_hashNode_30 ⟨Nat.le_of_ble_eq_true rfl, Nat.le_of_ble_eq_true rfl⟩) hP hD hS hA [4, 1, 2] [0, 3] (wr := [(t0, .inr (7, [.ref n0, .int xm])), (k0, .inr (3, [.long w1, .long w2, .long ov, .int (nI hh)]))]) rfl rfl (by decide) (by decide) [0, 3, 4, 1, 2] (res := fun _ => [(t0, .inr (7, [.ref n0, .int xm])), (n0, .inr (5, [.ref n1])), (n1, .inl (cJ, 64, .inr (.inl (nf)))), (k0, .inr (3, [.long w1, .long w2, .long ov, .int (nI hh)])), (h0, .inr (2, [.long ((ha (ha (ha (ha (ha (lN 4, lN 7) ov) (lN lv)) (lN iv)) (nf (2 * (2 ^ (hh - (lv - 1)) + (2 * iv))))) (nf (2 * (2 ^ (hh - (lv - 1)) + (2 * iv)) + 1))).1), .long ((ha (ha (ha (ha (ha (lN 4, lN 7) ov) (lN lv)) (lN iv)) (nf (2 * (2 ^ (hh - (lv - 1)) + (2 * iv))))) (nf (2 * (2 ^ (hh - (lv - 1)) + (2 * iv)) + 1))).2)]))]) (fun _ => rfl) (by decide) (fun  _ H locs hu hP hD hS => ?_)
  have hP : va_P (dC, dI) vwCl [(t0, .inr (7, [.ref n0, .int xm])), (n0, .inr (5, [.ref n1])), (n1, .inl (cJ, 64, .inr (.inl (nf)))), (k0, .inr (3, [.long w1, .long w2, .long ov, .int (nI hh)])), (h0, .inr (2, [.long ((ha (ha (ha (ha (ha (lN 4, lN 7) ov) (lN lv)) (lN iv)) (nf (2 * (2 ^ (hh - (lv - 1)) + (2 * iv))))) (nf (2 * (2 ^ (hh - (lv - 1)) + (2 * iv)) + 1))).1), .long ((ha (ha (ha (ha (ha (lN 4, lN 7) ov) (lN lv)) (lN iv)) (nf (2 * (2 ^ (hh - (lv - 1)) + (2 * iv))))) (nf (2 * (2 ^ (hh - (lv - 1)) + (2 * iv)) + 1))).2)]))] H := hP
  have hD : va_D A [(t0, .inr (7, [.ref n0, .int xm])), (n0, .inr (5, [.ref n1])), (n1, .inl (cJ, 64, .inr (.inl (nf)))), (k0, .inr (3, [.long w1, .long w2, .long ov, .int (nI hh)])), (h0, .inr (2, [.long ((ha (ha (ha (ha (ha (lN 4, lN 7) ov) (lN lv)) (lN iv)) (nf (2 * (2 ^ (hh - (lv - 1)) + (2 * iv))))) (nf (2 * (2 ^ (hh - (lv - 1)) + (2 * iv)) + 1))).1), .long ((ha (ha (ha (ha (ha (lN 4, lN 7) ov) (lN lv)) (lN iv)) (nf (2 * (2 ^ (hh - (lv - 1)) + (2 * iv))))) (nf (2 * (2 ^ (hh - (lv - 1)) + (2 * iv)) + 1))).2)]))] := hD
  refine lv_aload hx hb dX7_hashNode_33 (lv_at hl 4 rfl) ?_
  refine lv_aload_n hx hb dX7_hashNode_35 rfl (lv_at hl 0 rfl) ?_
  refine va_get (D := (dC, dI)) (ci := 7) (v := .ref n0) (C := RX7) (T := TX7) (N := 2) hx hb hts iX7 hown hK hP 0 rfl rfl 0 (by decide) f14 (fun _ h9 => h9) rfl dX7_hashNode_36 ?_
  refine lv_aload_n hx hb dX7_hashNode_39 rfl (lv_at hl 1 rfl) ?_
  refine va_get (D := (dC, dI)) (ci := 3) (v := .int (nI hh)) (C := RX3) (T := TX3) (N := 4) hx hb hts iX3 hown hK hP 3 rfl rfl 3 (by decide) f24 (fun _ h9 => h9) rfl dX7_hashNode_40 ?_
  refine lv_iload_n hx hb dX7_hashNode_43 rfl (lv_at hl 2 rfl) ?_
  refine lv_iconst (v := nI 1) hx hb dX7_hashNode_44 (by decide) ?_
  refine lv_isub hx hb dX7_hashNode_45 ?_
  refine st_i (y := nI (lv - 1)) (pk_sub (by omega)) ?_
  refine lv_iconst (v := nI 2) hx hb dX7_hashNode_46 (by decide) ?_
  refine lv_iload_n hx hb dX7_hashNode_47 rfl (lv_at hl 3 rfl) ?_
  refine lv_imul hx hb dX7_hashNode_48 ?_
  refine st_i (y := nI (2 * iv)) (pk_mul 2 iv) ?_
  refine lv_iconst (v := nI 1) hx hb dX7_hashNode_49 (by decide) ?_
  refine lv_iadd hx hb dX7_hashNode_50 ?_
  refine st_i (y := nI (2 * iv + 1)) (nI_add (2 * iv) 1) ?_
  refine st_calli (va_runS (As := [.int (nI hh), .int (nI (lv - 1)), .int (nI (2 * iv + 1))]) (rest := [.ref n0, .ref h0]) ⟨hx, hb, hml, hown, hts⟩ (c_Tree_slot l dC dI cJ cI  hh (lv - 1) (2 * iv + 1) (by omega) (by omega) H.size) (va_cwS 3 hts gX7_hashNode_X7_slot rfl rfl rfl (by decide +kernel) ⟨Nat.le_of_ble_eq_true rfl, Nat.le_of_ble_eq_true rfl⟩) (st_preS hK hP hD [] rfl rfl) rfl rfl hl.1 rfl (lv_room (Nat.le_of_ble_eq_true rfl)) dX7_hashNode_51 ⟨Nat.le_of_ble_eq_true rfl, Nat.le_of_ble_eq_true rfl⟩) hP hD hS hA [] [0, 1, 2, 3, 4] (wr := [(t0, .inr (7, [.ref n0, .int xm])), (n0, .inr (5, [.ref n1])), (n1, .inl (cJ, 64, .inr (.inl (nf)))), (k0, .inr (3, [.long w1, .long w2, .long ov, .int (nI hh)])), (h0, .inr (2, [.long ((ha (ha (ha (ha (ha (lN 4, lN 7) ov) (lN lv)) (lN iv)) (nf (2 * (2 ^ (hh - (lv - 1)) + (2 * iv))))) (nf (2 * (2 ^ (hh - (lv - 1)) + (2 * iv)) + 1))).1), .long ((ha (ha (ha (ha (ha (lN 4, lN 7) ov) (lN lv)) (lN iv)) (nf (2 * (2 ^ (hh - (lv - 1)) + (2 * iv))))) (nf (2 * (2 ^ (hh - (lv - 1)) + (2 * iv)) + 1))).2)]))]) rfl rfl (by decide) (by decide) [0, 1, 2, 3, 4] (res := fun _ => [(t0, .inr (7, [.ref n0, .int xm])), (n0, .inr (5, [.ref n1])), (n1, .inl (cJ, 64, .inr (.inl (nf)))), (k0, .inr (3, [.long w1, .long w2, .long ov, .int (nI hh)])), (h0, .inr (2, [.long ((ha (ha (ha (ha (ha (lN 4, lN 7) ov) (lN lv)) (lN iv)) (nf (2 * (2 ^ (hh - (lv - 1)) + (2 * iv))))) (nf (2 * (2 ^ (hh - (lv - 1)) + (2 * iv)) + 1))).1), .long ((ha (ha (ha (ha (ha (lN 4, lN 7) ov) (lN lv)) (lN iv)) (nf (2 * (2 ^ (hh - (lv - 1)) + (2 * iv))))) (nf (2 * (2 ^ (hh - (lv - 1)) + (2 * iv)) + 1))).2)]))]) (fun _ => rfl) (by decide) (fun r_2 _ H locs hu hP hD hS => ?_)
  have hP : va_P (dC, dI) vwCl [(t0, .inr (7, [.ref n0, .int xm])), (n0, .inr (5, [.ref n1])), (n1, .inl (cJ, 64, .inr (.inl (nf)))), (k0, .inr (3, [.long w1, .long w2, .long ov, .int (nI hh)])), (h0, .inr (2, [.long ((ha (ha (ha (ha (ha (lN 4, lN 7) ov) (lN lv)) (lN iv)) (nf (2 * (2 ^ (hh - (lv - 1)) + (2 * iv))))) (nf (2 * (2 ^ (hh - (lv - 1)) + (2 * iv)) + 1))).1), .long ((ha (ha (ha (ha (ha (lN 4, lN 7) ov) (lN lv)) (lN iv)) (nf (2 * (2 ^ (hh - (lv - 1)) + (2 * iv))))) (nf (2 * (2 ^ (hh - (lv - 1)) + (2 * iv)) + 1))).2)]))] H := hP
  have hD : va_D A [(t0, .inr (7, [.ref n0, .int xm])), (n0, .inr (5, [.ref n1])), (n1, .inl (cJ, 64, .inr (.inl (nf)))), (k0, .inr (3, [.long w1, .long w2, .long ov, .int (nI hh)])), (h0, .inr (2, [.long ((ha (ha (ha (ha (ha (lN 4, lN 7) ov) (lN lv)) (lN iv)) (nf (2 * (2 ^ (hh - (lv - 1)) + (2 * iv))))) (nf (2 * (2 ^ (hh - (lv - 1)) + (2 * iv)) + 1))).1), .long ((ha (ha (ha (ha (ha (lN 4, lN 7) ov) (lN lv)) (lN iv)) (nf (2 * (2 ^ (hh - (lv - 1)) + (2 * iv))))) (nf (2 * (2 ^ (hh - (lv - 1)) + (2 * iv)) + 1))).2)]))] := hD
  subst hu
  refine st_callv (va_runV (As := [.ref n0, .int (nI (2 ^ (hh - (lv - 1)) + (2 * iv + 1)))]) (rest := []) ⟨hx, hb, hml, hown, hts⟩ (c_Hasher_addPair l dC dI cJ cI h0 n0 n1 (ha (ha (ha (ha (ha (lN 4, lN 7) ov) (lN lv)) (lN iv)) (nf (2 * (2 ^ (hh - (lv - 1)) + (2 * iv))))) (nf (2 * (2 ^ (hh - (lv - 1)) + (2 * iv)) + 1))) 64 nf (2 ^ (hh - (lv - 1)) + (2 * iv + 1)) (by omega) (by omega) H.size) (cwV 2 hts gX7_hashNode_X2_addPair rfl rfl rfl (by decide +kernel) ⟨Nat.le_of_ble_eq_true rfl, Nat.le_of_ble_eq_true rfl⟩) (st_preV hK hP hD [4, 1, 2] rfl rfl (ci := 2) (q0 := 0) rfl rfl) rfl rfl hl.1 rfl (lv_room (Nat.le_of_ble_eq_true rfl)) dX7_hashNode_54 ⟨Nat.le_of_ble_eq_true rfl, Nat.le_of_ble_eq_true rfl⟩) hP hD hS hA [4, 1, 2] [0, 3] (wr := [(t0, .inr (7, [.ref n0, .int xm])), (k0, .inr (3, [.long w1, .long w2, .long ov, .int (nI hh)]))]) rfl rfl (by decide) (by decide) [0, 3, 4, 1, 2] (res := fun _ => [(t0, .inr (7, [.ref n0, .int xm])), (n0, .inr (5, [.ref n1])), (n1, .inl (cJ, 64, .inr (.inl (nf)))), (k0, .inr (3, [.long w1, .long w2, .long ov, .int (nI hh)])), (h0, .inr (2, [.long ((ha (ha (ha (ha (ha (ha (ha (lN 4, lN 7) ov) (lN lv)) (lN iv)) (nf (2 * (2 ^ (hh - (lv - 1)) + (2 * iv))))) (nf (2 * (2 ^ (hh - (lv - 1)) + (2 * iv)) + 1))) (nf (2 * (2 ^ (hh - (lv - 1)) + (2 * iv + 1))))) (nf (2 * (2 ^ (hh - (lv - 1)) + (2 * iv + 1)) + 1))).1), .long ((ha (ha (ha (ha (ha (ha (ha (lN 4, lN 7) ov) (lN lv)) (lN iv)) (nf (2 * (2 ^ (hh - (lv - 1)) + (2 * iv))))) (nf (2 * (2 ^ (hh - (lv - 1)) + (2 * iv)) + 1))) (nf (2 * (2 ^ (hh - (lv - 1)) + (2 * iv + 1))))) (nf (2 * (2 ^ (hh - (lv - 1)) + (2 * iv + 1)) + 1))).2)]))]) (fun _ => rfl) (by decide) (fun  _ H locs hu hP hD hS => ?_)
  have hP : va_P (dC, dI) vwCl [(t0, .inr (7, [.ref n0, .int xm])), (n0, .inr (5, [.ref n1])), (n1, .inl (cJ, 64, .inr (.inl (nf)))), (k0, .inr (3, [.long w1, .long w2, .long ov, .int (nI hh)])), (h0, .inr (2, [.long ((ha (ha (ha (ha (ha (ha (ha (lN 4, lN 7) ov) (lN lv)) (lN iv)) (nf (2 * (2 ^ (hh - (lv - 1)) + (2 * iv))))) (nf (2 * (2 ^ (hh - (lv - 1)) + (2 * iv)) + 1))) (nf (2 * (2 ^ (hh - (lv - 1)) + (2 * iv + 1))))) (nf (2 * (2 ^ (hh - (lv - 1)) + (2 * iv + 1)) + 1))).1), .long ((ha (ha (ha (ha (ha (ha (ha (lN 4, lN 7) ov) (lN lv)) (lN iv)) (nf (2 * (2 ^ (hh - (lv - 1)) + (2 * iv))))) (nf (2 * (2 ^ (hh - (lv - 1)) + (2 * iv)) + 1))) (nf (2 * (2 ^ (hh - (lv - 1)) + (2 * iv + 1))))) (nf (2 * (2 ^ (hh - (lv - 1)) + (2 * iv + 1)) + 1))).2)]))] H := hP
  have hD : va_D A [(t0, .inr (7, [.ref n0, .int xm])), (n0, .inr (5, [.ref n1])), (n1, .inl (cJ, 64, .inr (.inl (nf)))), (k0, .inr (3, [.long w1, .long w2, .long ov, .int (nI hh)])), (h0, .inr (2, [.long ((ha (ha (ha (ha (ha (ha (ha (lN 4, lN 7) ov) (lN lv)) (lN iv)) (nf (2 * (2 ^ (hh - (lv - 1)) + (2 * iv))))) (nf (2 * (2 ^ (hh - (lv - 1)) + (2 * iv)) + 1))) (nf (2 * (2 ^ (hh - (lv - 1)) + (2 * iv + 1))))) (nf (2 * (2 ^ (hh - (lv - 1)) + (2 * iv + 1)) + 1))).1), .long ((ha (ha (ha (ha (ha (ha (ha (lN 4, lN 7) ov) (lN lv)) (lN iv)) (nf (2 * (2 ^ (hh - (lv - 1)) + (2 * iv))))) (nf (2 * (2 ^ (hh - (lv - 1)) + (2 * iv)) + 1))) (nf (2 * (2 ^ (hh - (lv - 1)) + (2 * iv + 1))))) (nf (2 * (2 ^ (hh - (lv - 1)) + (2 * iv + 1)) + 1))).2)]))] := hD
  have eW_3 : ([(t0, .inr (7, [.ref n0, .int xm])), (n0, .inr (5, [.ref n1])), (n1, .inl (cJ, 64, .inr (.inl (nf)))), (k0, .inr (3, [.long w1, .long w2, .long ov, .int (nI hh)])), (h0, .inr (2, [.long ((ha (ha (ha (ha (ha (ha (ha (lN 4, lN 7) ov) (lN lv)) (lN iv)) (nf (2 * (2 ^ (hh - (lv - 1)) + (2 * iv))))) (nf (2 * (2 ^ (hh - (lv - 1)) + (2 * iv)) + 1))) (nf (2 * (2 ^ (hh - (lv - 1)) + (2 * iv + 1))))) (nf (2 * (2 ^ (hh - (lv - 1)) + (2 * iv + 1)) + 1))).1), .long ((ha (ha (ha (ha (ha (ha (ha (lN 4, lN 7) ov) (lN lv)) (lN iv)) (nf (2 * (2 ^ (hh - (lv - 1)) + (2 * iv))))) (nf (2 * (2 ^ (hh - (lv - 1)) + (2 * iv)) + 1))) (nf (2 * (2 ^ (hh - (lv - 1)) + (2 * iv + 1))))) (nf (2 * (2 ^ (hh - (lv - 1)) + (2 * iv + 1)) + 1))).2)]))] : va_W) = [(t0, .inr (7, [.ref n0, .int xm])), (n0, .inr (5, [.ref n1])), (n1, .inl (cJ, 64, .inr (.inl (nf)))), (k0, .inr (3, [.long w1, .long w2, .long ov, .int (nI hh)])), (h0, .inr (2, [.long ((nd ov lv iv (nf (2 * (2 ^ (hh - (lv - 1)) + 2 * iv)), nf (2 * (2 ^ (hh - (lv - 1)) + 2 * iv) + 1)) (nf (2 * (2 ^ (hh - (lv - 1)) + (2 * iv + 1))), nf (2 * (2 ^ (hh - (lv - 1)) + (2 * iv + 1)) + 1))).1), .long ((nd ov lv iv (nf (2 * (2 ^ (hh - (lv - 1)) + 2 * iv)), nf (2 * (2 ^ (hh - (lv - 1)) + 2 * iv) + 1)) (nf (2 * (2 ^ (hh - (lv - 1)) + (2 * iv + 1))), nf (2 * (2 ^ (hh - (lv - 1)) + (2 * iv + 1)) + 1))).2)]))] := rfl
  have hP : va_P (dC, dI) vwCl [(t0, .inr (7, [.ref n0, .int xm])), (n0, .inr (5, [.ref n1])), (n1, .inl (cJ, 64, .inr (.inl (nf)))), (k0, .inr (3, [.long w1, .long w2, .long ov, .int (nI hh)])), (h0, .inr (2, [.long ((nd ov lv iv (nf (2 * (2 ^ (hh - (lv - 1)) + 2 * iv)), nf (2 * (2 ^ (hh - (lv - 1)) + 2 * iv) + 1)) (nf (2 * (2 ^ (hh - (lv - 1)) + (2 * iv + 1))), nf (2 * (2 ^ (hh - (lv - 1)) + (2 * iv + 1)) + 1))).1), .long ((nd ov lv iv (nf (2 * (2 ^ (hh - (lv - 1)) + 2 * iv)), nf (2 * (2 ^ (hh - (lv - 1)) + 2 * iv) + 1)) (nf (2 * (2 ^ (hh - (lv - 1)) + (2 * iv + 1))), nf (2 * (2 ^ (hh - (lv - 1)) + (2 * iv + 1)) + 1))).2)]))] H := by rw [← eW_3]; exact hP
  have hD : va_D A [(t0, .inr (7, [.ref n0, .int xm])), (n0, .inr (5, [.ref n1])), (n1, .inl (cJ, 64, .inr (.inl (nf)))), (k0, .inr (3, [.long w1, .long w2, .long ov, .int (nI hh)])), (h0, .inr (2, [.long ((nd ov lv iv (nf (2 * (2 ^ (hh - (lv - 1)) + 2 * iv)), nf (2 * (2 ^ (hh - (lv - 1)) + 2 * iv) + 1)) (nf (2 * (2 ^ (hh - (lv - 1)) + (2 * iv + 1))), nf (2 * (2 ^ (hh - (lv - 1)) + (2 * iv + 1)) + 1))).1), .long ((nd ov lv iv (nf (2 * (2 ^ (hh - (lv - 1)) + 2 * iv)), nf (2 * (2 ^ (hh - (lv - 1)) + 2 * iv) + 1)) (nf (2 * (2 ^ (hh - (lv - 1)) + (2 * iv + 1))), nf (2 * (2 ^ (hh - (lv - 1)) + (2 * iv + 1)) + 1))).2)]))] := by rw [← eW_3]; exact hD
  exact W.vret hx hb hr (fun t ht hW => ⟨⟨(), rfl, trivial, by rw [ht]; exact hP, va_K.moved hW.alike hK, hD⟩, hS.F ht⟩) hS.2.2 dX7_hashNode_57

set_option maxHeartbeats 4000000 in
set_option maxRecDepth 100000 in
theorem c_Tree_addLeaf (l : Launch) (dC : Nat → ClassId) (dI : Nat → Nat → Nat) (cJ cI : ClassId) (t0 n0 n1 k0 h0 : Nat) (w1 w2 ov : Int64) (hh md : Nat) (nf : Nat → Int64) (h1 : 1 ≤ hh) (h4 : hh ≤ 4) (hmd : md < 2 ^ hh) (hN0 : NOK w1 w2 ov hh md nf) (sz : Nat) : Met l yX7_addLeaf wsX7_addLeaf ({ frames := 4, cells := 0, slots := 0, locals := 95 }) (va_Pc [.ref t0, .ref k0, .ref h0] (st_B (dC, dI) vwCl [(cJ, .long), (cI, .int)] [(t0, .inr (7, [.ref n0, .int (nI md)])), (n0, .inr (5, [.ref n1])), (n1, .inl (cJ, 64, .inr (.inl (nf)))), (k0, .inr (3, [.long w1, .long w2, .long ov, .int (nI hh)])), (h0, .inr (2, [.long (nv w1 w2 ov 0 md).1, .long (nv w1 w2 ov 0 md).2]))] sz)) (va_Qv (fun u : (Nat → Int64) × (Int64 × Int64) => NOK w1 w2 ov hh (md + 1) u.1) (st_E (dC, dI) vwCl [(cJ, .long), (cI, .int)] (va_A [(t0, .inr (7, [.ref n0, .int (nI md)])), (n0, .inr (5, [.ref n1])), (n1, .inl (cJ, 64, .inr (.inl (nf)))), (k0, .inr (3, [.long w1, .long w2, .long ov, .int (nI hh)])), (h0, .inr (2, [.long (nv w1 w2 ov 0 md).1, .long (nv w1 w2 ov 0 md).2]))] sz) (fun u => [(t0, .inr (7, [.ref n0, .int (nI (md + 1))])), (n0, .inr (5, [.ref n1])), (n1, .inl (cJ, 64, .inr (.inl (u.1)))), (k0, .inr (3, [.long w1, .long w2, .long ov, .int (nI hh)])), (h0, .inr (2, [.long u.2.1, .long u.2.2]))])) (va_A [(t0, .inr (7, [.ref n0, .int (nI md)])), (n0, .inr (5, [.ref n1])), (n1, .inl (cJ, 64, .inr (.inl (nf)))), (k0, .inr (3, [.long w1, .long w2, .long ov, .int (nI hh)])), (h0, .inr (2, [.long (nv w1 w2 ov 0 md).1, .long (nv w1 w2 ov 0 md).2]))] sz)) 0 0 (va_A [(t0, .inr (7, [.ref n0, .int (nI md)])), (n0, .inr (5, [.ref n1])), (n1, .inl (cJ, 64, .inr (.inl (nf)))), (k0, .inr (3, [.long w1, .long w2, .long ov, .int (nI hh)])), (h0, .inr (2, [.long (nv w1 w2 ov 0 md).1, .long (nv w1 w2 ov 0 md).2]))] sz) := by
  refine Met.ofW (cc := cX7_addLeaf) (maxL := 6) (ret := none) (by decide) rfl ?_
  intro p e s m args below meth c s₁ B hml hv
  obtain ⟨rfl, hsz, hP, hK, hD0⟩ := hv
  have hx := B.exec
  have hb := B.bytes
  have hr := B.returns
  have hts := atoms_spec (ws := wsX7_addLeaf) B.pre
  have hown : s.vm.findClass RX7 = some m.cls := findClass_of_methodNamed B.named
  have hlocks := B.notSynchronized
  subst hsz
  have hD := hD0.self (sz := s.heap.size)
  generalize hAe : va_A [(t0, .inr (7, [.ref n0, .int (nI md)])), (n0, .inr (5, [.ref n1])), (n1, .inl (cJ, 64, .inr (.inl (nf)))), (k0, .inr (3, [.long w1, .long w2, .long ov, .int (nI hh)])), (h0, .inr (2, [.long (nv w1 w2 ov 0 md).1, .long (nv w1 w2 ov 0 md).2]))] s.heap.size = A at hD ⊢
  have hA : ∀ q : Nat, s.heap.size ≤ q → A q := fun q h => by rw [← hAe]; exact Or.inr h
  have hS : va_S A s.heap s.heap [] := va_S.rf
  have hP : va_P (dC, dI) vwCl [(t0, .inr (7, [.ref n0, .int (nI md)])), (n0, .inr (5, [.ref n1])), (n1, .inl (cJ, 64, .inr (.inl (nf)))), (k0, .inr (3, [.long w1, .long w2, .long ov, .int (nI hh)])), (h0, .inr (2, [.long (nv w1 w2 ov 0 md).1, .long (nv w1 w2 ov 0 md).2]))] s.heap := hP
  have hl := lv_entry ([.ref t0, .ref k0, .ref h0]) (n := 6) (Nat.le_of_ble_eq_true rfl)
  rw [lg_entry_eq]
  generalize (lg_sl ([.ref t0, .ref k0, .ref h0]) ++ List.replicate (6 - (lg_sl ([.ref t0, .ref k0, .ref h0])).length) Slot.unset).toArray = ls at hl ⊢
  have iX7 : ∀ w ∈ wsX70, w ∈ wsX7_addLeaf := by decide +kernel
  have iX3 : ∀ w ∈ wsX30, w ∈ wsX7_addLeaf := by decide +kernel
  have f14 := hts (.fieldLink RX7 14 "LeafSigner$Tree" "nodes" "LLeafSigner$Pairs;") (by decide +kernel)
  have f24 := hts (.fieldLink RX7 24 "LeafSigner$Keys" "height" "I") (by decide +kernel)
  have f20 := hts (.fieldLink RX7 20 "LeafSigner$Tree" "made" "I") (by decide +kernel)
  have hl : lv_has ls 6 [(0, .ref t0), (1, .ref k0), (2, .ref h0)] := hl
  have hp2 := p2_le h4
  have hp0 := p2_le (show hh - 0 ≤ 4 by omega)
  refine lv_aload_n hx hb dX7_addLeaf_0 rfl (lv_at hl 2 rfl) ?_
  refine lv_aload_n hx hb dX7_addLeaf_1 rfl (lv_at hl 0 rfl) ?_
  refine va_get (D := (dC, dI)) (ci := 7) (v := .ref n0) (C := RX7) (T := TX7) (N := 2) hx hb hts iX7 hown hK hP 0 rfl rfl 0 (by decide) f14 (fun _ h9 => h9) rfl dX7_addLeaf_2 ?_
  refine lv_aload_n hx hb dX7_addLeaf_5 rfl (lv_at hl 1 rfl) ?_
  refine va_get (D := (dC, dI)) (ci := 3) (v := .int (nI hh)) (C := RX3) (T := TX3) (N := 4) hx hb hts iX3 hown hK hP 3 rfl rfl 3 (by decide) f24 (fun _ h9 => h9) rfl dX7_addLeaf_6 ?_
  refine lv_iconst (v := nI 0) hx hb dX7_addLeaf_9 (by decide) ?_
  refine lv_aload_n hx hb dX7_addLeaf_10 rfl (lv_at hl 0 rfl) ?_
  refine va_get (D := (dC, dI)) (ci := 7) (v := .int (nI md)) (C := RX7) (T := TX7) (N := 2) hx hb hts iX7 hown hK hP 0 rfl rfl 1 (by decide) f20 (fun _ h9 => h9) rfl dX7_addLeaf_11 ?_
  refine st_calli (va_runS (As := [.int (nI hh), .int (nI 0), .int (nI md)]) (rest := [.ref n0, .ref h0]) ⟨hx, hb, hml, hown, hts⟩ (c_Tree_slot l dC dI cJ cI  hh 0 md (by omega) (by omega) s.heap.size) (va_cwS 3 hts gX7_addLeaf_X7_slot rfl rfl rfl (by decide +kernel) ⟨Nat.le_of_ble_eq_true rfl, Nat.le_of_ble_eq_true rfl⟩) (st_preS hK hP hD [] rfl rfl) rfl rfl hl.1 rfl (lv_room (Nat.le_of_ble_eq_true rfl)) dX7_addLeaf_14 ⟨Nat.le_of_ble_eq_true rfl, Nat.le_of_ble_eq_true rfl⟩) hP hD hS hA [] [0, 1, 2, 3, 4] (wr := [(t0, .inr (7, [.ref n0, .int (nI md)])), (n0, .inr (5, [.ref n1])), (n1, .inl (cJ, 64, .inr (.inl (nf)))), (k0, .inr (3, [.long w1, .long w2, .long ov, .int (nI hh)])), (h0, .inr (2, [.long (nv w1 w2 ov 0 md).1, .long (nv w1 w2 ov 0 md).2]))]) rfl rfl (by decide) (by decide) [0, 1, 2, 3, 4] (res := fun _ => [(t0, .inr (7, [.ref n0, .int (nI md)])), (n0, .inr (5, [.ref n1])), (n1, .inl (cJ, 64, .inr (.inl (nf)))), (k0, .inr (3, [.long w1, .long w2, .long ov, .int (nI hh)])), (h0, .inr (2, [.long (nv w1 w2 ov 0 md).1, .long (nv w1 w2 ov 0 md).2]))]) (fun _ => rfl) (by decide) (fun r_1 _ H locs hu hP hD hS => ?_)
  have hP : va_P (dC, dI) vwCl [(t0, .inr (7, [.ref n0, .int (nI md)])), (n0, .inr (5, [.ref n1])), (n1, .inl (cJ, 64, .inr (.inl (nf)))), (k0, .inr (3, [.long w1, .long w2, .long ov, .int (nI hh)])), (h0, .inr (2, [.long (nv w1 w2 ov 0 md).1, .long (nv w1 w2 ov 0 md).2]))] H := hP
  have hD : va_D A [(t0, .inr (7, [.ref n0, .int (nI md)])), (n0, .inr (5, [.ref n1])), (n1, .inl (cJ, 64, .inr (.inl (nf)))), (k0, .inr (3, [.long w1, .long w2, .long ov, .int (nI hh)])), (h0, .inr (2, [.long (nv w1 w2 ov 0 md).1, .long (nv w1 w2 ov 0 md).2]))] := hD
  subst hu
  refine st_callv (va_runV (As := [.ref n0, .int (nI (2 ^ (hh - 0) + md))]) (rest := []) ⟨hx, hb, hml, hown, hts⟩ (c_Hasher_giveTo l dC dI cJ cI h0 n0 n1 (nv w1 w2 ov 0 md) 64 nf (2 ^ (hh - 0) + md) (by omega) (by omega) H.size) (cwV 2 hts gX7_addLeaf_X2_giveTo rfl rfl rfl (by decide +kernel) ⟨Nat.le_of_ble_eq_true rfl, Nat.le_of_ble_eq_true rfl⟩) (st_preV hK hP hD [4, 1, 2] rfl rfl (ci := 2) (q0 := 0) rfl rfl) rfl rfl hl.1 rfl (lv_room (Nat.le_of_ble_eq_true rfl)) dX7_addLeaf_17 ⟨Nat.le_of_ble_eq_true rfl, Nat.le_of_ble_eq_true rfl⟩) hP hD hS hA [4, 1, 2] [0, 3] (wr := [(t0, .inr (7, [.ref n0, .int (nI md)])), (k0, .inr (3, [.long w1, .long w2, .long ov, .int (nI hh)]))]) rfl rfl (by decide) (by decide) [0, 3, 4, 1, 2] (res := fun _ => [(t0, .inr (7, [.ref n0, .int (nI md)])), (n0, .inr (5, [.ref n1])), (n1, .inl (cJ, 64, .inr (.inl (setP nf (2 ^ (hh - 0) + md) (nv w1 w2 ov 0 md))))), (k0, .inr (3, [.long w1, .long w2, .long ov, .int (nI hh)])), (h0, .inr (2, [.long ((nv w1 w2 ov 0 md).1), .long ((nv w1 w2 ov 0 md).2)]))]) (fun _ => rfl) (by decide) (fun  _ H locs hu hP hD hS => ?_)
  have hP : va_P (dC, dI) vwCl [(t0, .inr (7, [.ref n0, .int (nI md)])), (n0, .inr (5, [.ref n1])), (n1, .inl (cJ, 64, .inr (.inl (setP nf (2 ^ (hh - 0) + md) (nv w1 w2 ov 0 md))))), (k0, .inr (3, [.long w1, .long w2, .long ov, .int (nI hh)])), (h0, .inr (2, [.long ((nv w1 w2 ov 0 md).1), .long ((nv w1 w2 ov 0 md).2)]))] H := hP
  have hD : va_D A [(t0, .inr (7, [.ref n0, .int (nI md)])), (n0, .inr (5, [.ref n1])), (n1, .inl (cJ, 64, .inr (.inl (setP nf (2 ^ (hh - 0) + md) (nv w1 w2 ov 0 md))))), (k0, .inr (3, [.long w1, .long w2, .long ov, .int (nI hh)])), (h0, .inr (2, [.long ((nv w1 w2 ov 0 md).1), .long ((nv w1 w2 ov 0 md).2)]))] := hD
  refine lv_aload_n hx hb dX7_addLeaf_20 rfl (lv_at hl 0 rfl) ?_
  refine lv_dup hx hb dX7_addLeaf_21 rfl ?_
  refine va_get (D := (dC, dI)) (ci := 7) (v := .int (nI md)) (C := RX7) (T := TX7) (N := 2) hx hb hts iX7 hown hK hP 0 rfl rfl 1 (by decide) f20 (fun _ h9 => h9) rfl dX7_addLeaf_22 ?_
  refine lv_iconst (v := nI 1) hx hb dX7_addLeaf_25 (by decide) ?_
  refine lv_iadd hx hb dX7_addLeaf_26 ?_
  refine st_i (y := nI (md + 1)) (nI_add md 1) ?_
  refine va_put (D := (dC, dI)) (ci := 7) (v := .int (nI (md + 1))) (ty := .int) (C := RX7) (T := TX7) (N := 2) hx hb hts iX7 tyX7 tyX7_ok nmX7 hown hK hP hD hS 0 rfl rfl 1 (by decide) f20 (fun _ h9 => h9) rfl (by decide +kernel) rfl rfl (Nat.le_of_ble_eq_true rfl) dX7_addLeaf_27 (fun H locs hP hD hS => ?_)
  have hP : va_P (dC, dI) vwCl [(t0, .inr (7, [.ref n0, .int (nI (md + 1))])), (n0, .inr (5, [.ref n1])), (n1, .inl (cJ, 64, .inr (.inl (setP nf (2 ^ (hh - 0) + md) (nv w1 w2 ov 0 md))))), (k0, .inr (3, [.long w1, .long w2, .long ov, .int (nI hh)])), (h0, .inr (2, [.long ((nv w1 w2 ov 0 md).1), .long ((nv w1 w2 ov 0 md).2)]))] H := hP
  have hD : va_D A [(t0, .inr (7, [.ref n0, .int (nI (md + 1))])), (n0, .inr (5, [.ref n1])), (n1, .inl (cJ, 64, .inr (.inl (setP nf (2 ^ (hh - 0) + md) (nv w1 w2 ov 0 md))))), (k0, .inr (3, [.long w1, .long w2, .long ov, .int (nI hh)])), (h0, .inr (2, [.long ((nv w1 w2 ov 0 md).1), .long ((nv w1 w2 ov 0 md).2)]))] := hD
  refine lv_iconst (v := nI 1) hx hb dX7_addLeaf_30 (by decide) ?_
  refine lv_istore_n (lv' := [(3, .int (nI 1)), (0, .ref t0), (1, .ref k0), (2, .ref h0)]) hx hb dX7_addLeaf_31 rfl hl (by decide) rfl (fun ls hl => ?_)
  refine st_loop (I := fun j H locs ls => ∃ (nf2 : Nat → Int64), ∃ (gp : Int64 × Int64), (1 ≤ j) ∧ (NOKp w1 w2 ov hh md j nf2) ∧ va_P (dC, dI) vwCl [(t0, .inr (7, [.ref n0, .int (nI (md + 1))])), (n0, .inr (5, [.ref n1])), (n1, .inl (cJ, 64, .inr (.inl (nf2)))), (k0, .inr (3, [.long w1, .long w2, .long ov, .int (nI hh)])), (h0, .inr (2, [.long gp.1, .long gp.2]))] H ∧ va_D A [(t0, .inr (7, [.ref n0, .int (nI (md + 1))])), (n0, .inr (5, [.ref n1])), (n1, .inl (cJ, 64, .inr (.inl (nf2)))), (k0, .inr (3, [.long w1, .long w2, .long ov, .int (nI hh)])), (h0, .inr (2, [.long gp.1, .long gp.2]))] ∧ va_S A s.heap H locs ∧ lv_has ls 6 [(0, .ref t0), (1, .ref k0), (2, .ref h0), (3, .int (nI j))]) 1 (hh + 1) (by omega) ⟨(setP nf (2 ^ (hh - 0) + md) (nv w1 w2 ov 0 md)), (nv w1 w2 ov 0 md), (Nat.le_refl 1), (nok_leaf hN0 hmd), hP, hD, hS, lv_sub hl [1, 2, 3, 0] rfl⟩ (fun H locs ls hI => ?_) (fun j H locs ls hi hI ih => ?_)
  ·
    obtain ⟨nf2, gp, hj1, hN, hP, hD, hS, hl⟩ := hI
    have hP : va_P (dC, dI) vwCl [(t0, .inr (7, [.ref n0, .int (nI (md + 1))])), (n0, .inr (5, [.ref n1])), (n1, .inl (cJ, 64, .inr (.inl (nf2)))), (k0, .inr (3, [.long w1, .long w2, .long ov, .int (nI hh)])), (h0, .inr (2, [.long gp.1, .long gp.2]))] H := hP
    have hD : va_D A [(t0, .inr (7, [.ref n0, .int (nI (md + 1))])), (n0, .inr (5, [.ref n1])), (n1, .inl (cJ, 64, .inr (.inl (nf2)))), (k0, .inr (3, [.long w1, .long w2, .long ov, .int (nI hh)])), (h0, .inr (2, [.long gp.1, .long gp.2]))] := hD
    have hl : lv_has ls 6 [(0, .ref t0), (1, .ref k0), (2, .ref h0), (3, .int (nI (hh + 1)))] := hl
    refine lv_iload_n hx hb dX7_addLeaf_32 rfl (lv_at hl 3 rfl) ?_
    refine lv_aload_n hx hb dX7_addLeaf_33 rfl (lv_at hl 1 rfl) ?_
    refine va_get (D := (dC, dI)) (ci := 3) (v := .int (nI hh)) (C := RX3) (T := TX3) (N := 4) hx hb hts iX3 hown hK hP 3 rfl rfl 3 (by decide) f24 (fun _ h9 => h9) rfl dX7_addLeaf_34 ?_
    refine lv_icmp_gt (tgt := 103) hx hb dX7_addLeaf_37 (by decide) (fun c37 => ?_) (fun c37 => ?_)
    ·
      rw [q_lt (by omega) (by omega)] at c37
      exact W.vret hx hb hr (fun t ht hW => ⟨⟨(nf2, gp), rfl, nok_end hN, by rw [ht]; exact hP, va_K.moved hW.alike hK, hD⟩, hS.F ht⟩) hS.2.2 dX7_addLeaf_103
    ·
      rw [q_lt (by omega) (by omega)] at c37
      exact absurd c37 (by omega)
  ·
    obtain ⟨nf2, gp, hj1, hN, hP, hD, hS, hl⟩ := hI
    have hP : va_P (dC, dI) vwCl [(t0, .inr (7, [.ref n0, .int (nI (md + 1))])), (n0, .inr (5, [.ref n1])), (n1, .inl (cJ, 64, .inr (.inl (nf2)))), (k0, .inr (3, [.long w1, .long w2, .long ov, .int (nI hh)])), (h0, .inr (2, [.long gp.1, .long gp.2]))] H := hP
    have hD : va_D A [(t0, .inr (7, [.ref n0, .int (nI (md + 1))])), (n0, .inr (5, [.ref n1])), (n1, .inl (cJ, 64, .inr (.inl (nf2)))), (k0, .inr (3, [.long w1, .long w2, .long ov, .int (nI hh)])), (h0, .inr (2, [.long gp.1, .long gp.2]))] := hD
    have hl : lv_has ls 6 [(0, .ref t0), (1, .ref k0), (2, .ref h0), (3, .int (nI j))] := hl
    have hpj := Nat.two_pow_pos j
    have hpj2 := p2_le (show j ≤ 4 by omega)
    have hmj := Nat.mod_le (md + 1) (2 ^ j)
    have hdj := Nat.div_le_self (md + 1) (2 ^ j)
    refine lv_iload_n hx hb dX7_addLeaf_32 rfl (lv_at hl 3 rfl) ?_
    refine lv_aload_n hx hb dX7_addLeaf_33 rfl (lv_at hl 1 rfl) ?_
    refine va_get (D := (dC, dI)) (ci := 3) (v := .int (nI hh)) (C := RX3) (T := TX3) (N := 4) hx hb hts iX3 hown hK hP 3 rfl rfl 3 (by decide) f24 (fun _ h9 => h9) rfl dX7_addLeaf_34 ?_
    refine lv_icmp_gt (tgt := 103) hx hb dX7_addLeaf_37 (by decide) (fun c37 => ?_) (fun c37 => ?_)
    ·
      rw [q_lt (by omega) (by omega)] at c37
      exact absurd c37 (by omega)
    ·
      rw [q_lt (by omega) (by omega)] at c37
      refine lv_iconst (v := nI 1) hx hb dX7_addLeaf_40 (by decide) ?_
      refine lv_iload_n hx hb dX7_addLeaf_41 rfl (lv_at hl 3 rfl) ?_
      refine lv_ishl hx hb dX7_addLeaf_42 ?_
      refine st_i (y := nI (2 ^ j)) (st_shl1 (by omega)) ?_
      refine lv_istore (lv' := [(4, .int (nI (2 ^ j))), (0, .ref t0), (1, .ref k0), (2, .ref h0), (3, .int (nI j))]) hx hb dX7_addLeaf_43 hl (by decide) rfl (fun ls hl => ?_)
      refine lv_aload_n hx hb dX7_addLeaf_45 rfl (lv_at hl 1 rfl) ?_
      refine va_get (D := (dC, dI)) (ci := 7) (v := .int (nI (md + 1))) (C := RX7) (T := TX7) (N := 2) hx hb hts iX7 hown hK hP 0 rfl rfl 1 (by decide) f20 (fun _ h9 => h9) rfl dX7_addLeaf_46 ?_
      refine lv_iload hx hb dX7_addLeaf_49 (lv_at hl 0 rfl) ?_
      refine lv_iconst (v := nI 1) hx hb dX7_addLeaf_51 (by decide) ?_
      refine lv_isub hx hb dX7_addLeaf_52 ?_
      refine st_i (y := nI ((2 ^ j) - 1)) (pk_sub (by omega)) ?_
      refine lv_iand hx hb dX7_addLeaf_53 ?_
      refine st_i (y := nI ((md + 1) % 2 ^ j)) (pk_andN (by omega) j (pk_tn (by omega))) ?_
      refine lv_if_eq (tgt := 60) hx hb dX7_addLeaf_54 (by decide) (fun c54 => ?_) (fun c54 => ?_)
      ·
        rw [q_eq0 (by omega)] at c54
        have hq := up_eq c54
        have hq1 := hq.1
        refine lv_aload_n hx hb dX7_addLeaf_60 rfl (lv_at hl 1 rfl) ?_
        refine va_get (D := (dC, dI)) (ci := 7) (v := .int (nI (md + 1))) (C := RX7) (T := TX7) (N := 2) hx hb hts iX7 hown hK hP 0 rfl rfl 1 (by decide) f20 (fun _ h9 => h9) rfl dX7_addLeaf_61 ?_
        refine lv_iload_n hx hb dX7_addLeaf_64 rfl (lv_at hl 4 rfl) ?_
        refine lv_ishr hx hb dX7_addLeaf_65 ?_
        refine st_i (y := nI ((md + 1) / 2 ^ j)) (st_shr (by omega) (by omega)) ?_
        refine lv_iconst (v := nI 1) hx hb dX7_addLeaf_66 (by decide) ?_
        refine lv_isub hx hb dX7_addLeaf_67 ?_
        refine st_i (y := nI (((md + 1) / 2 ^ j) - 1)) (pk_sub (by omega)) ?_
        refine lv_istore (lv' := [(5, .int (nI (((md + 1) / 2 ^ j) - 1))), (4, .int (nI (2 ^ j))), (0, .ref t0), (1, .ref k0), (2, .ref h0), (3, .int (nI j))]) hx hb dX7_addLeaf_68 hl (by decide) rfl (fun ls hl => ?_)
        refine lv_aload_n hx hb dX7_addLeaf_70 rfl (lv_at hl 2 rfl) ?_
        refine lv_aload_n hx hb dX7_addLeaf_71 rfl (lv_at hl 3 rfl) ?_
        refine lv_iload_n hx hb dX7_addLeaf_72 rfl (lv_at hl 5 rfl) ?_
        refine lv_iload hx hb dX7_addLeaf_73 (lv_at hl 0 rfl) ?_
        refine lv_aload_n hx hb dX7_addLeaf_75 rfl (lv_at hl 4 rfl) ?_
        refine st_callv (va_runV (As := [.ref k0, .int (nI j), .int (nI (((md + 1) / 2 ^ j) - 1)), .ref h0]) (rest := []) ⟨hx, hb, hml, hown, hts⟩ (c_Tree_hashNode l dC dI cJ cI t0 n0 n1 k0 h0 gp w1 w2 ov hh j (((md + 1) / 2 ^ j) - 1) (nI (md + 1)) nf2 h4 hj1 (by omega) (nok_bd h4 hj1 (by omega) hmd hq.2) H.size) (cwV 4 hts gX7_addLeaf_X7_hashNode rfl rfl rfl (by decide +kernel) ⟨Nat.le_of_ble_eq_true rfl, Nat.le_of_ble_eq_true rfl⟩) (st_preV hK hP hD [0, 1, 2, 3, 4] rfl rfl (ci := 7) (q0 := 0) rfl rfl) rfl rfl hl.1 rfl (lv_room (Nat.le_of_ble_eq_true rfl)) dX7_addLeaf_76 ⟨Nat.le_of_ble_eq_true rfl, Nat.le_of_ble_eq_true rfl⟩) hP hD hS hA [0, 1, 2, 3, 4] [] (wr := []) rfl rfl (by decide) (by decide) [0, 1, 2, 3, 4] (res := fun _ => [(t0, .inr (7, [.ref n0, .int (nI (md + 1))])), (n0, .inr (5, [.ref n1])), (n1, .inl (cJ, 64, .inr (.inl (nf2)))), (k0, .inr (3, [.long w1, .long w2, .long ov, .int (nI hh)])), (h0, .inr (2, [.long ((nd ov j (((md + 1) / 2 ^ j) - 1) (nf2 (2 * (2 ^ (hh - (j - 1)) + 2 * (((md + 1) / 2 ^ j) - 1))), nf2 (2 * (2 ^ (hh - (j - 1)) + 2 * (((md + 1) / 2 ^ j) - 1)) + 1)) (nf2 (2 * (2 ^ (hh - (j - 1)) + (2 * (((md + 1) / 2 ^ j) - 1) + 1))), nf2 (2 * (2 ^ (hh - (j - 1)) + (2 * (((md + 1) / 2 ^ j) - 1) + 1)) + 1))).1), .long ((nd ov j (((md + 1) / 2 ^ j) - 1) (nf2 (2 * (2 ^ (hh - (j - 1)) + 2 * (((md + 1) / 2 ^ j) - 1))), nf2 (2 * (2 ^ (hh - (j - 1)) + 2 * (((md + 1) / 2 ^ j) - 1)) + 1)) (nf2 (2 * (2 ^ (hh - (j - 1)) + (2 * (((md + 1) / 2 ^ j) - 1) + 1))), nf2 (2 * (2 ^ (hh - (j - 1)) + (2 * (((md + 1) / 2 ^ j) - 1) + 1)) + 1))).2)]))]) (fun _ => rfl) (by decide) (fun  _ H locs hu hP hD hS => ?_)
        have hP : va_P (dC, dI) vwCl [(t0, .inr (7, [.ref n0, .int (nI (md + 1))])), (n0, .inr (5, [.ref n1])), (n1, .inl (cJ, 64, .inr (.inl (nf2)))), (k0, .inr (3, [.long w1, .long w2, .long ov, .int (nI hh)])), (h0, .inr (2, [.long ((nd ov j (((md + 1) / 2 ^ j) - 1) (nf2 (2 * (2 ^ (hh - (j - 1)) + 2 * (((md + 1) / 2 ^ j) - 1))), nf2 (2 * (2 ^ (hh - (j - 1)) + 2 * (((md + 1) / 2 ^ j) - 1)) + 1)) (nf2 (2 * (2 ^ (hh - (j - 1)) + (2 * (((md + 1) / 2 ^ j) - 1) + 1))), nf2 (2 * (2 ^ (hh - (j - 1)) + (2 * (((md + 1) / 2 ^ j) - 1) + 1)) + 1))).1), .long ((nd ov j (((md + 1) / 2 ^ j) - 1) (nf2 (2 * (2 ^ (hh - (j - 1)) + 2 * (((md + 1) / 2 ^ j) - 1))), nf2 (2 * (2 ^ (hh - (j - 1)) + 2 * (((md + 1) / 2 ^ j) - 1)) + 1)) (nf2 (2 * (2 ^ (hh - (j - 1)) + (2 * (((md + 1) / 2 ^ j) - 1) + 1))), nf2 (2 * (2 ^ (hh - (j - 1)) + (2 * (((md + 1) / 2 ^ j) - 1) + 1)) + 1))).2)]))] H := hP
        have hD : va_D A [(t0, .inr (7, [.ref n0, .int (nI (md + 1))])), (n0, .inr (5, [.ref n1])), (n1, .inl (cJ, 64, .inr (.inl (nf2)))), (k0, .inr (3, [.long w1, .long w2, .long ov, .int (nI hh)])), (h0, .inr (2, [.long ((nd ov j (((md + 1) / 2 ^ j) - 1) (nf2 (2 * (2 ^ (hh - (j - 1)) + 2 * (((md + 1) / 2 ^ j) - 1))), nf2 (2 * (2 ^ (hh - (j - 1)) + 2 * (((md + 1) / 2 ^ j) - 1)) + 1)) (nf2 (2 * (2 ^ (hh - (j - 1)) + (2 * (((md + 1) / 2 ^ j) - 1) + 1))), nf2 (2 * (2 ^ (hh - (j - 1)) + (2 * (((md + 1) / 2 ^ j) - 1) + 1)) + 1))).1), .long ((nd ov j (((md + 1) / 2 ^ j) - 1) (nf2 (2 * (2 ^ (hh - (j - 1)) + 2 * (((md + 1) / 2 ^ j) - 1))), nf2 (2 * (2 ^ (hh - (j - 1)) + 2 * (((md + 1) / 2 ^ j) - 1)) + 1)) (nf2 (2 * (2 ^ (hh - (j - 1)) + (2 * (((md + 1) / 2 ^ j) - 1) + 1))), nf2 (2 * (2 ^ (hh - (j - 1)) + (2 * (((md + 1) / 2 ^ j) - 1) + 1)) + 1))).2)]))] := hD
        have eW_2 : ([(t0, .inr (7, [.ref n0, .int (nI (md + 1))])), (n0, .inr (5, [.ref n1])), (n1, .inl (cJ, 64, .inr (.inl (nf2)))), (k0, .inr (3, [.long w1, .long w2, .long ov, .int (nI hh)])), (h0, .inr (2, [.long ((nd ov j (((md + 1) / 2 ^ j) - 1) (nf2 (2 * (2 ^ (hh - (j - 1)) + 2 * (((md + 1) / 2 ^ j) - 1))), nf2 (2 * (2 ^ (hh - (j - 1)) + 2 * (((md + 1) / 2 ^ j) - 1)) + 1)) (nf2 (2 * (2 ^ (hh - (j - 1)) + (2 * (((md + 1) / 2 ^ j) - 1) + 1))), nf2 (2 * (2 ^ (hh - (j - 1)) + (2 * (((md + 1) / 2 ^ j) - 1) + 1)) + 1))).1), .long ((nd ov j (((md + 1) / 2 ^ j) - 1) (nf2 (2 * (2 ^ (hh - (j - 1)) + 2 * (((md + 1) / 2 ^ j) - 1))), nf2 (2 * (2 ^ (hh - (j - 1)) + 2 * (((md + 1) / 2 ^ j) - 1)) + 1)) (nf2 (2 * (2 ^ (hh - (j - 1)) + (2 * (((md + 1) / 2 ^ j) - 1) + 1))), nf2 (2 * (2 ^ (hh - (j - 1)) + (2 * (((md + 1) / 2 ^ j) - 1) + 1)) + 1))).2)]))] : va_W) = [(t0, .inr (7, [.ref n0, .int (nI (md + 1))])), (n0, .inr (5, [.ref n1])), (n1, .inl (cJ, 64, .inr (.inl (nf2)))), (k0, .inr (3, [.long w1, .long w2, .long ov, .int (nI hh)])), (h0, .inr (2, [.long ((nv w1 w2 ov j ((md + 1) / 2 ^ j - 1)).1), .long ((nv w1 w2 ov j ((md + 1) / 2 ^ j - 1)).2)]))] := by rw [← nok_kids hN hj1 (by omega) hq.2] <;> rfl
        have hP : va_P (dC, dI) vwCl [(t0, .inr (7, [.ref n0, .int (nI (md + 1))])), (n0, .inr (5, [.ref n1])), (n1, .inl (cJ, 64, .inr (.inl (nf2)))), (k0, .inr (3, [.long w1, .long w2, .long ov, .int (nI hh)])), (h0, .inr (2, [.long ((nv w1 w2 ov j ((md + 1) / 2 ^ j - 1)).1), .long ((nv w1 w2 ov j ((md + 1) / 2 ^ j - 1)).2)]))] H := by rw [← eW_2]; exact hP
        have hD : va_D A [(t0, .inr (7, [.ref n0, .int (nI (md + 1))])), (n0, .inr (5, [.ref n1])), (n1, .inl (cJ, 64, .inr (.inl (nf2)))), (k0, .inr (3, [.long w1, .long w2, .long ov, .int (nI hh)])), (h0, .inr (2, [.long ((nv w1 w2 ov j ((md + 1) / 2 ^ j - 1)).1), .long ((nv w1 w2 ov j ((md + 1) / 2 ^ j - 1)).2)]))] := by rw [← eW_2]; exact hD
        refine lv_aload_n hx hb dX7_addLeaf_79 rfl (lv_at hl 4 rfl) ?_
        refine lv_aload_n hx hb dX7_addLeaf_80 rfl (lv_at hl 2 rfl) ?_
        refine va_get (D := (dC, dI)) (ci := 7) (v := .ref n0) (C := RX7) (T := TX7) (N := 2) hx hb hts iX7 hown hK hP 0 rfl rfl 0 (by decide) f14 (fun _ h9 => h9) rfl dX7_addLeaf_81 ?_
        refine lv_aload_n hx hb dX7_addLeaf_84 rfl (lv_at hl 3 rfl) ?_
        refine va_get (D := (dC, dI)) (ci := 3) (v := .int (nI hh)) (C := RX3) (T := TX3) (N := 4) hx hb hts iX3 hown hK hP 3 rfl rfl 3 (by decide) f24 (fun _ h9 => h9) rfl dX7_addLeaf_85 ?_
        refine lv_iload_n hx hb dX7_addLeaf_88 rfl (lv_at hl 5 rfl) ?_
        refine lv_iload hx hb dX7_addLeaf_89 (lv_at hl 0 rfl) ?_
        refine st_calli (va_runS (As := [.int (nI hh), .int (nI j), .int (nI (((md + 1) / 2 ^ j) - 1))]) (rest := [.ref n0, .ref h0]) ⟨hx, hb, hml, hown, hts⟩ (c_Tree_slot l dC dI cJ cI  hh j (((md + 1) / 2 ^ j) - 1) (by omega) (by omega) H.size) (va_cwS 3 hts gX7_addLeaf_X7_slot rfl rfl rfl (by decide +kernel) ⟨Nat.le_of_ble_eq_true rfl, Nat.le_of_ble_eq_true rfl⟩) (st_preS hK hP hD [] rfl rfl) rfl rfl hl.1 rfl (lv_room (Nat.le_of_ble_eq_true rfl)) dX7_addLeaf_91 ⟨Nat.le_of_ble_eq_true rfl, Nat.le_of_ble_eq_true rfl⟩) hP hD hS hA [] [0, 1, 2, 3, 4] (wr := [(t0, .inr (7, [.ref n0, .int (nI (md + 1))])), (n0, .inr (5, [.ref n1])), (n1, .inl (cJ, 64, .inr (.inl (nf2)))), (k0, .inr (3, [.long w1, .long w2, .long ov, .int (nI hh)])), (h0, .inr (2, [.long ((nv w1 w2 ov j ((md + 1) / 2 ^ j - 1)).1), .long ((nv w1 w2 ov j ((md + 1) / 2 ^ j - 1)).2)]))]) rfl rfl (by decide) (by decide) [0, 1, 2, 3, 4] (res := fun _ => [(t0, .inr (7, [.ref n0, .int (nI (md + 1))])), (n0, .inr (5, [.ref n1])), (n1, .inl (cJ, 64, .inr (.inl (nf2)))), (k0, .inr (3, [.long w1, .long w2, .long ov, .int (nI hh)])), (h0, .inr (2, [.long ((nv w1 w2 ov j ((md + 1) / 2 ^ j - 1)).1), .long ((nv w1 w2 ov j ((md + 1) / 2 ^ j - 1)).2)]))]) (fun _ => rfl) (by decide) (fun r_3 _ H locs hu hP hD hS => ?_)
        have hP : va_P (dC, dI) vwCl [(t0, .inr (7, [.ref n0, .int (nI (md + 1))])), (n0, .inr (5, [.ref n1])), (n1, .inl (cJ, 64, .inr (.inl (nf2)))), (k0, .inr (3, [.long w1, .long w2, .long ov, .int (nI hh)])), (h0, .inr (2, [.long ((nv w1 w2 ov j ((md + 1) / 2 ^ j - 1)).1), .long ((nv w1 w2 ov j ((md + 1) / 2 ^ j - 1)).2)]))] H := hP
        have hD : va_D A [(t0, .inr (7, [.ref n0, .int (nI (md + 1))])), (n0, .inr (5, [.ref n1])), (n1, .inl (cJ, 64, .inr (.inl (nf2)))), (k0, .inr (3, [.long w1, .long w2, .long ov, .int (nI hh)])), (h0, .inr (2, [.long ((nv w1 w2 ov j ((md + 1) / 2 ^ j - 1)).1), .long ((nv w1 w2 ov j ((md + 1) / 2 ^ j - 1)).2)]))] := hD
        subst hu
        refine st_callv (va_runV (As := [.ref n0, .int (nI (2 ^ (hh - j) + (((md + 1) / 2 ^ j) - 1)))]) (rest := []) ⟨hx, hb, hml, hown, hts⟩ (c_Hasher_giveTo l dC dI cJ cI h0 n0 n1 (nv w1 w2 ov j ((md + 1) / 2 ^ j - 1)) 64 nf2 (2 ^ (hh - j) + (((md + 1) / 2 ^ j) - 1)) (by have := nok_bd2 h4 (show j ≤ hh by omega) hmd hq.2; omega) (by omega) H.size) (cwV 2 hts gX7_addLeaf_X2_giveTo rfl rfl rfl (by decide +kernel) ⟨Nat.le_of_ble_eq_true rfl, Nat.le_of_ble_eq_true rfl⟩) (st_preV hK hP hD [4, 1, 2] rfl rfl (ci := 2) (q0 := 0) rfl rfl) rfl rfl hl.1 rfl (lv_room (Nat.le_of_ble_eq_true rfl)) dX7_addLeaf_94 ⟨Nat.le_of_ble_eq_true rfl, Nat.le_of_ble_eq_true rfl⟩) hP hD hS hA [4, 1, 2] [0, 3] (wr := [(t0, .inr (7, [.ref n0, .int (nI (md + 1))])), (k0, .inr (3, [.long w1, .long w2, .long ov, .int (nI hh)]))]) rfl rfl (by decide) (by decide) [0, 3, 4, 1, 2] (res := fun _ => [(t0, .inr (7, [.ref n0, .int (nI (md + 1))])), (n0, .inr (5, [.ref n1])), (n1, .inl (cJ, 64, .inr (.inl (setP nf2 (2 ^ (hh - j) + (((md + 1) / 2 ^ j) - 1)) (nv w1 w2 ov j ((md + 1) / 2 ^ j - 1)))))), (k0, .inr (3, [.long w1, .long w2, .long ov, .int (nI hh)])), (h0, .inr (2, [.long ((nv w1 w2 ov j ((md + 1) / 2 ^ j - 1)).1), .long ((nv w1 w2 ov j ((md + 1) / 2 ^ j - 1)).2)]))]) (fun _ => rfl) (by decide) (fun  _ H locs hu hP hD hS => ?_)
        have hP : va_P (dC, dI) vwCl [(t0, .inr (7, [.ref n0, .int (nI (md + 1))])), (n0, .inr (5, [.ref n1])), (n1, .inl (cJ, 64, .inr (.inl (setP nf2 (2 ^ (hh - j) + (((md + 1) / 2 ^ j) - 1)) (nv w1 w2 ov j ((md + 1) / 2 ^ j - 1)))))), (k0, .inr (3, [.long w1, .long w2, .long ov, .int (nI hh)])), (h0, .inr (2, [.long ((nv w1 w2 ov j ((md + 1) / 2 ^ j - 1)).1), .long ((nv w1 w2 ov j ((md + 1) / 2 ^ j - 1)).2)]))] H := hP
        have hD : va_D A [(t0, .inr (7, [.ref n0, .int (nI (md + 1))])), (n0, .inr (5, [.ref n1])), (n1, .inl (cJ, 64, .inr (.inl (setP nf2 (2 ^ (hh - j) + (((md + 1) / 2 ^ j) - 1)) (nv w1 w2 ov j ((md + 1) / 2 ^ j - 1)))))), (k0, .inr (3, [.long w1, .long w2, .long ov, .int (nI hh)])), (h0, .inr (2, [.long ((nv w1 w2 ov j ((md + 1) / 2 ^ j - 1)).1), .long ((nv w1 w2 ov j ((md + 1) / 2 ^ j - 1)).2)]))] := hD
        refine lv_iinc (v := nI (j + 1)) (lv' := [(3, .int (nI (j + 1))), (5, .int (nI (((md + 1) / 2 ^ j) - 1))), (4, .int (nI (2 ^ j))), (0, .ref t0), (1, .ref k0), (2, .ref h0)]) hx hb dX7_addLeaf_97 hl (k := 5) rfl (st_inc j 1 (by decide)) (by decide) rfl (fun ls hl => ?_)
        refine lv_goto (tgt := 32) hx hb dX7_addLeaf_100 (by decide) ?_
        have eW_4 : ([(t0, .inr (7, [.ref n0, .int (nI (md + 1))])), (n0, .inr (5, [.ref n1])), (n1, .inl (cJ, 64, .inr (.inl (setP nf2 (2 ^ (hh - j) + (((md + 1) / 2 ^ j) - 1)) (nv w1 w2 ov j ((md + 1) / 2 ^ j - 1)))))), (k0, .inr (3, [.long w1, .long w2, .long ov, .int (nI hh)])), (h0, .inr (2, [.long ((nv w1 w2 ov j ((md + 1) / 2 ^ j - 1)).1), .long ((nv w1 w2 ov j ((md + 1) / 2 ^ j - 1)).2)]))] : va_W) = [(t0, .inr (7, [.ref n0, .int (nI (md + 1))])), (n0, .inr (5, [.ref n1])), (n1, .inl (cJ, 64, .inr (.inl (setP nf2 (2 ^ (hh - j) + ((md + 1) / 2 ^ j - 1)) (nv w1 w2 ov j ((md + 1) / 2 ^ j - 1)))))), (k0, .inr (3, [.long w1, .long w2, .long ov, .int (nI hh)])), (h0, .inr (2, [.long ((nv w1 w2 ov j ((md + 1) / 2 ^ j - 1)).1), .long ((nv w1 w2 ov j ((md + 1) / 2 ^ j - 1)).2)]))] := rfl
        have hP : va_P (dC, dI) vwCl [(t0, .inr (7, [.ref n0, .int (nI (md + 1))])), (n0, .inr (5, [.ref n1])), (n1, .inl (cJ, 64, .inr (.inl (setP nf2 (2 ^ (hh - j) + ((md + 1) / 2 ^ j - 1)) (nv w1 w2 ov j ((md + 1) / 2 ^ j - 1)))))), (k0, .inr (3, [.long w1, .long w2, .long ov, .int (nI hh)])), (h0, .inr (2, [.long ((nv w1 w2 ov j ((md + 1) / 2 ^ j - 1)).1), .long ((nv w1 w2 ov j ((md + 1) / 2 ^ j - 1)).2)]))] H := by rw [← eW_4]; exact hP
        have hD : va_D A [(t0, .inr (7, [.ref n0, .int (nI (md + 1))])), (n0, .inr (5, [.ref n1])), (n1, .inl (cJ, 64, .inr (.inl (setP nf2 (2 ^ (hh - j) + ((md + 1) / 2 ^ j - 1)) (nv w1 w2 ov j ((md + 1) / 2 ^ j - 1)))))), (k0, .inr (3, [.long w1, .long w2, .long ov, .int (nI hh)])), (h0, .inr (2, [.long ((nv w1 w2 ov j ((md + 1) / 2 ^ j - 1)).1), .long ((nv w1 w2 ov j ((md + 1) / 2 ^ j - 1)).2)]))] := by rw [← eW_4]; exact hD
        exact ih _ _ _ ⟨(setP nf2 (2 ^ (hh - j) + ((md + 1) / 2 ^ j - 1)) (nv w1 w2 ov j ((md + 1) / 2 ^ j - 1))), (nv w1 w2 ov j ((md + 1) / 2 ^ j - 1)), (by omega), (nok_step hN (by omega) hmd hq.2), hP, hD, hS, lv_sub hl [3, 4, 5, 0] rfl⟩
      ·
        rw [q_eq0 (by omega)] at c54
        refine lv_goto (tgt := 103) hx hb dX7_addLeaf_57 (by decide) ?_
        exact W.vret hx hb hr (fun t ht hW => ⟨⟨(nf2, gp), rfl, nok_brk hN c54, by rw [ht]; exact hP, va_K.moved hW.alike hK, hD⟩, hS.F ht⟩) hS.2.2 dX7_addLeaf_103
end
section
set_option maxHeartbeats 4000000 in
set_option maxRecDepth 100000 in
theorem c_LeafSigner_isRootMade (l : Launch) (dC : Nat → ClassId) (dI : Nat → Nat → Nat) (cJ cI : ClassId) (x0 k0 h0 c0 t0 m0 d0 s0 o0 n0 : Nat) (w1 w2 ov : Int64) (hh md : Nat) (xu : Int32) (h4 : hh ≤ 4) (hmd : md < 2 ^ 31) (sz : Nat) : Met l yX8_isRootMade wsX8_isRootMade ({ frames := 1, cells := 0, slots := 0, locals := 23 }) (va_Pc [.ref x0] (st_B (dC, dI) vwCl [(cJ, .long), (cI, .int)] [(x0, .inr (8, [.ref k0, .ref h0, .ref c0, .ref t0, .ref m0, .ref d0, .ref s0, .ref o0, .int xu])), (k0, .inr (3, [.long w1, .long w2, .long ov, .int (nI hh)])), (t0, .inr (7, [.ref n0, .int (nI md)]))] sz)) (va_Qi (fun (r : Int32) (_ : Unit) => r = bI (decide (2 ^ hh ≤ md))) (st_E (dC, dI) vwCl [(cJ, .long), (cI, .int)] (va_A [(x0, .inr (8, [.ref k0, .ref h0, .ref c0, .ref t0, .ref m0, .ref d0, .ref s0, .ref o0, .int xu])), (k0, .inr (3, [.long w1, .long w2, .long ov, .int (nI hh)])), (t0, .inr (7, [.ref n0, .int (nI md)]))] sz) (fun _ => [(x0, .inr (8, [.ref k0, .ref h0, .ref c0, .ref t0, .ref m0, .ref d0, .ref s0, .ref o0, .int xu])), (k0, .inr (3, [.long w1, .long w2, .long ov, .int (nI hh)])), (t0, .inr (7, [.ref n0, .int (nI md)]))])) (va_A [(x0, .inr (8, [.ref k0, .ref h0, .ref c0, .ref t0, .ref m0, .ref d0, .ref s0, .ref o0, .int xu])), (k0, .inr (3, [.long w1, .long w2, .long ov, .int (nI hh)])), (t0, .inr (7, [.ref n0, .int (nI md)]))] sz)) 0 0 (va_A [(x0, .inr (8, [.ref k0, .ref h0, .ref c0, .ref t0, .ref m0, .ref d0, .ref s0, .ref o0, .int xu])), (k0, .inr (3, [.long w1, .long w2, .long ov, .int (nI hh)])), (t0, .inr (7, [.ref n0, .int (nI md)]))] sz) := by
  refine Met.ofW (cc := cX8_isRootMade) (maxL := 1) (ret := (some .boolean)) (by decide) rfl ?_
  intro p e s m args below meth c s₁ B hml hv
  obtain ⟨rfl, hsz, hP, hK, hD0⟩ := hv
  have hx := B.exec
  have hb := B.bytes
  have hr := B.returns
  have hts := atoms_spec (ws := wsX8_isRootMade) B.pre
  have hown : s.vm.findClass RX8 = some m.cls := findClass_of_methodNamed B.named
  have hlocks := B.notSynchronized
  subst hsz
  have hD := hD0.self (sz := s.heap.size)
  generalize hAe : va_A [(x0, .inr (8, [.ref k0, .ref h0, .ref c0, .ref t0, .ref m0, .ref d0, .ref s0, .ref o0, .int xu])), (k0, .inr (3, [.long w1, .long w2, .long ov, .int (nI hh)])), (t0, .inr (7, [.ref n0, .int (nI md)]))] s.heap.size = A at hD ⊢
  have hA : ∀ q : Nat, s.heap.size ≤ q → A q := fun q h => by rw [← hAe]; exact Or.inr h
  have hS : va_S A s.heap s.heap [] := va_S.rf
  have hP : va_P (dC, dI) vwCl [(x0, .inr (8, [.ref k0, .ref h0, .ref c0, .ref t0, .ref m0, .ref d0, .ref s0, .ref o0, .int xu])), (k0, .inr (3, [.long w1, .long w2, .long ov, .int (nI hh)])), (t0, .inr (7, [.ref n0, .int (nI md)]))] s.heap := hP
  have hl := lv_entry ([.ref x0]) (n := 1) (Nat.le_of_ble_eq_true rfl)
  rw [lg_entry_eq]
  generalize (lg_sl ([.ref x0]) ++ List.replicate (1 - (lg_sl ([.ref x0])).length) Slot.unset).toArray = ls at hl ⊢
  have iX8 : ∀ w ∈ wsX80, w ∈ wsX8_isRootMade := by decide +kernel
  have iX3 : ∀ w ∈ wsX30, w ∈ wsX8_isRootMade := by decide +kernel
  have f33 := hts (.fieldLink RX8 33 "LeafSigner" "tree" "LLeafSigner$Tree;") (by decide +kernel)
  have f10 := hts (.fieldLink RX8 10 "LeafSigner" "keys" "LLeafSigner$Keys;") (by decide +kernel)
  have f115 := hts (.fieldLink RX8 115 "LeafSigner$Keys" "height" "I") (by decide +kernel)
  have hl : lv_has ls 1 [(0, .ref x0)] := hl
  refine lv_aload_n hx hb dX8_isRootMade_0 rfl (lv_at hl 0 rfl) ?_
  refine va_get (D := (dC, dI)) (ci := 8) (v := .ref t0) (C := RX8) (T := TX8) (N := 9) hx hb hts iX8 hown hK hP 0 rfl rfl 3 (by decide) f33 (fun _ h9 => h9) rfl dX8_isRootMade_1 ?_
  refine lv_aload_n hx hb dX8_isRootMade_4 rfl (lv_at hl 0 rfl) ?_
  refine va_get (D := (dC, dI)) (ci := 8) (v := .ref k0) (C := RX8) (T := TX8) (N := 9) hx hb hts iX8 hown hK hP 0 rfl rfl 0 (by decide) f10 (fun _ h9 => h9) rfl dX8_isRootMade_5 ?_
  refine va_get (D := (dC, dI)) (ci := 3) (v := .int (nI hh)) (C := RX3) (T := TX3) (N := 4) hx hb hts iX3 hown hK hP 1 rfl rfl 3 (by decide) f115 (fun _ h9 => h9) rfl dX8_isRootMade_8 ?_
  refine lv_aload_n hx hb dX8_isRootMade_11 rfl (lv_at hl 0 rfl) ?_
  refine va_get (D := (dC, dI)) (ci := 8) (v := .ref k0) (C := RX8) (T := TX8) (N := 9) hx hb hts iX8 hown hK hP 0 rfl rfl 0 (by decide) f10 (fun _ h9 => h9) rfl dX8_isRootMade_12 ?_
  refine va_get (D := (dC, dI)) (ci := 3) (v := .int (nI hh)) (C := RX3) (T := TX3) (N := 4) hx hb hts iX3 hown hK hP 1 rfl rfl 3 (by decide) f115 (fun _ h9 => h9) rfl dX8_isRootMade_15 ?_
  refine lv_iconst (v := nI 0) hx hb dX8_isRootMade_18 (by decide) ?_
  refine st_calli (va_runV (As := [.int (nI hh), .int (nI hh), .int (nI 0)]) (rest := []) ⟨hx, hb, hml, hown, hts⟩ (c_Tree_isMade l dC dI cJ cI t0 n0 hh md (nI hh) (nI 0) (by omega) (by omega) s.heap.size) (cwV 3 hts gX8_isRootMade_X7_isMade rfl rfl rfl (by decide +kernel) ⟨Nat.le_of_ble_eq_true rfl, Nat.le_of_ble_eq_true rfl⟩) (st_preV hK hP hD [2] rfl rfl (ci := 7) (q0 := 0) rfl rfl) rfl rfl hl.1 rfl (lv_room (Nat.le_of_ble_eq_true rfl)) dX8_isRootMade_19 ⟨Nat.le_of_ble_eq_true rfl, Nat.le_of_ble_eq_true rfl⟩) hP hD hS hA [2] [0, 1] (wr := [(x0, .inr (8, [.ref k0, .ref h0, .ref c0, .ref t0, .ref m0, .ref d0, .ref s0, .ref o0, .int xu])), (k0, .inr (3, [.long w1, .long w2, .long ov, .int (nI hh)]))]) rfl rfl (by decide) (by decide) [0, 1, 2] (res := fun _ => [(x0, .inr (8, [.ref k0, .ref h0, .ref c0, .ref t0, .ref m0, .ref d0, .ref s0, .ref o0, .int xu])), (k0, .inr (3, [.long w1, .long w2, .long ov, .int (nI hh)])), (t0, .inr (7, [.ref n0, .int (nI md)]))]) (fun _ => rfl) (by decide) (fun r_1 _ H locs hu hP hD hS => ?_)
  have hP : va_P (dC, dI) vwCl [(x0, .inr (8, [.ref k0, .ref h0, .ref c0, .ref t0, .ref m0, .ref d0, .ref s0, .ref o0, .int xu])), (k0, .inr (3, [.long w1, .long w2, .long ov, .int (nI hh)])), (t0, .inr (7, [.ref n0, .int (nI md)]))] H := hP
  have hD : va_D A [(x0, .inr (8, [.ref k0, .ref h0, .ref c0, .ref t0, .ref m0, .ref d0, .ref s0, .ref o0, .int xu])), (k0, .inr (3, [.long w1, .long w2, .long ov, .int (nI hh)])), (t0, .inr (7, [.ref n0, .int (nI md)]))] := hD
  subst hu
  refine st_i (y := bI (decide (2 ^ hh ≤ md))) (congrArg bI (isMB_root h4)) ?_
  exact W.zret (v := bI (decide (2 ^ hh ≤ md))) hx hb hr (nar_b _) (fun t ht hW => ⟨⟨bI (decide (2 ^ hh ≤ md)), (), rfl, rfl, by rw [ht]; exact hP, va_K.moved hW.alike hK, hD⟩, hS.F ht⟩) hS.2.2 dX8_isRootMade_22

set_option maxHeartbeats 4000000 in
set_option maxRecDepth 100000 in
theorem c_begin_no (l : Launch) (dC : Nat → ClassId) (dI : Nat → Nat → Nat) (cJ cI : ClassId) (x0 k0 h0 c0 t0 m0 d0 s0 o0 : Nat) (x1 x2 xo : Int64) (xh xu : Int32) (hbad : xh < nI 1 ∨ nI 4 < xh) (sz : Nat) : Met l yX8_begin wsX8_begin ({ frames := 0, cells := 0, slots := 0, locals := 0 }) (va_Pc [.ref x0, .long x1, .long x2, .long xo, .int xh] (st_B (dC, dI) vwCl [(cJ, .long), (cI, .int)] [(x0, .inr (8, [.ref k0, .ref h0, .ref c0, .ref t0, .ref m0, .ref d0, .ref s0, .ref o0, .int xu]))] sz)) (va_Qi (fun (r : Int32) (_ : Unit) => r = nI 0) (st_E (dC, dI) vwCl [(cJ, .long), (cI, .int)] (va_A [(x0, .inr (8, [.ref k0, .ref h0, .ref c0, .ref t0, .ref m0, .ref d0, .ref s0, .ref o0, .int xu]))] sz) (fun _ => [(x0, .inr (8, [.ref k0, .ref h0, .ref c0, .ref t0, .ref m0, .ref d0, .ref s0, .ref o0, .int xu]))])) (va_A [(x0, .inr (8, [.ref k0, .ref h0, .ref c0, .ref t0, .ref m0, .ref d0, .ref s0, .ref o0, .int xu]))] sz)) 0 0 (va_A [(x0, .inr (8, [.ref k0, .ref h0, .ref c0, .ref t0, .ref m0, .ref d0, .ref s0, .ref o0, .int xu]))] sz) := by
  refine Met.ofW (cc := cX8_begin) (maxL := 8) (ret := (some .int)) (by decide) rfl ?_
  intro p e s m args below meth c s₁ B hml hv
  obtain ⟨rfl, hsz, hP, hK, hD0⟩ := hv
  have hx := B.exec
  have hb := B.bytes
  have hr := B.returns
  have hts := atoms_spec (ws := wsX8_begin) B.pre
  have hown : s.vm.findClass RX8 = some m.cls := findClass_of_methodNamed B.named
  have hlocks := B.notSynchronized
  subst hsz
  have hD := hD0.self (sz := s.heap.size)
  generalize hAe : va_A [(x0, .inr (8, [.ref k0, .ref h0, .ref c0, .ref t0, .ref m0, .ref d0, .ref s0, .ref o0, .int xu]))] s.heap.size = A at hD ⊢
  have hA : ∀ q : Nat, s.heap.size ≤ q → A q := fun q h => by rw [← hAe]; exact Or.inr h
  have hS : va_S A s.heap s.heap [] := va_S.rf
  have hP : va_P (dC, dI) vwCl [(x0, .inr (8, [.ref k0, .ref h0, .ref c0, .ref t0, .ref m0, .ref d0, .ref s0, .ref o0, .int xu]))] s.heap := hP
  have hl := lv_entry ([.ref x0, .long x1, .long x2, .long xo, .int xh]) (n := 8) (Nat.le_of_ble_eq_true rfl)
  rw [lg_entry_eq]
  generalize (lg_sl ([.ref x0, .long x1, .long x2, .long xo, .int xh]) ++ List.replicate (8 - (lg_sl ([.ref x0, .long x1, .long x2, .long xo, .int xh])).length) Slot.unset).toArray = ls at hl ⊢
  have hl : lv_has ls 8 [(0, .ref x0), (1, .long x1), (3, .long x2), (5, .long xo), (7, .int xh)] := hl
  refine lv_iload hx hb dX8_begin_0 (lv_at hl 4 rfl) ?_
  refine lv_iconst (v := nI 1) hx hb dX8_begin_2 (by decide) ?_
  refine lv_icmp_lt (tgt := 12) hx hb dX8_begin_3 (by decide) (fun c3 => ?_) (fun c3 => ?_)
  ·
    refine lv_iconst (v := nI 0) hx hb dX8_begin_12 (by decide) ?_
    exact W.iret (v := nI 0) hx hb hr (fun t ht hW => ⟨⟨nI 0, (), rfl, rfl, by rw [ht]; exact hP, va_K.moved hW.alike hK, hD⟩, hS.F ht⟩) hS.2.2 dX8_begin_13
  ·
    refine lv_iload hx hb dX8_begin_6 (lv_at hl 4 rfl) ?_
    refine lv_iconst (v := nI 4) hx hb dX8_begin_8 (by decide) ?_
    refine lv_icmp_le (tgt := 14) hx hb dX8_begin_9 (by decide) (fun c9 => ?_) (fun c9 => ?_)
    ·
      exact absurd c9 (fun q => hbad.elim c3 (fun z => absurd q (Int32.not_le.mpr z)))
    ·
      refine lv_iconst (v := nI 0) hx hb dX8_begin_12 (by decide) ?_
      exact W.iret (v := nI 0) hx hb hr (fun t ht hW => ⟨⟨nI 0, (), rfl, rfl, by rw [ht]; exact hP, va_K.moved hW.alike hK, hD⟩, hS.F ht⟩) hS.2.2 dX8_begin_13

set_option maxHeartbeats 4000000 in
set_option maxRecDepth 100000 in
theorem c_begin_ok (l : Launch) (dC : Nat → ClassId) (dI : Nat → Nat → Nat) (cJ cI : ClassId) (x0 k0 h0 c0 t0 m0 d0 s0 o0 n0 p0 : Nat) (x1 x2 xo w1 w2 ov : Int64) (hv : Nat) (hi xu xm xl xn : Int32) (hv1 : 1 ≤ hv) (hv4 : hv ≤ 4) (sz : Nat) : Met l yX8_begin wsX8_begin ({ frames := 1, cells := 0, slots := 0, locals := 27 }) (va_Pc [.ref x0, .long x1, .long x2, .long xo, .int (nI hv)] (st_B (dC, dI) vwCl [(cJ, .long), (cI, .int)] [(x0, .inr (8, [.ref k0, .ref h0, .ref c0, .ref t0, .ref m0, .ref d0, .ref s0, .ref o0, .int xu])), (k0, .inr (3, [.long w1, .long w2, .long ov, .int hi])), (t0, .inr (7, [.ref n0, .int xm])), (s0, .inr (6, [.ref p0, .int xl, .int xn]))] sz)) (va_Qi (fun (r : Int32) (_ : Unit) => r = nI 1) (st_E (dC, dI) vwCl [(cJ, .long), (cI, .int)] (va_A [(x0, .inr (8, [.ref k0, .ref h0, .ref c0, .ref t0, .ref m0, .ref d0, .ref s0, .ref o0, .int xu])), (k0, .inr (3, [.long w1, .long w2, .long ov, .int hi])), (t0, .inr (7, [.ref n0, .int xm])), (s0, .inr (6, [.ref p0, .int xl, .int xn]))] sz) (fun _ => [(x0, .inr (8, [.ref k0, .ref h0, .ref c0, .ref t0, .ref m0, .ref d0, .ref s0, .ref o0, .int (nI 0)])), (k0, .inr (3, [.long x1, .long x2, .long xo, .int (nI hv)])), (t0, .inr (7, [.ref n0, .int (nI 0)])), (s0, .inr (6, [.ref p0, .int (-1), .int (nI 0)]))])) (va_A [(x0, .inr (8, [.ref k0, .ref h0, .ref c0, .ref t0, .ref m0, .ref d0, .ref s0, .ref o0, .int xu])), (k0, .inr (3, [.long w1, .long w2, .long ov, .int hi])), (t0, .inr (7, [.ref n0, .int xm])), (s0, .inr (6, [.ref p0, .int xl, .int xn]))] sz)) 0 0 (va_A [(x0, .inr (8, [.ref k0, .ref h0, .ref c0, .ref t0, .ref m0, .ref d0, .ref s0, .ref o0, .int xu])), (k0, .inr (3, [.long w1, .long w2, .long ov, .int hi])), (t0, .inr (7, [.ref n0, .int xm])), (s0, .inr (6, [.ref p0, .int xl, .int xn]))] sz) := by
  refine Met.ofW (cc := cX8_begin) (maxL := 8) (ret := (some .int)) (by decide) rfl ?_
  intro p e s m args below meth c s₁ B hml hv
  obtain ⟨rfl, hsz, hP, hK, hD0⟩ := hv
  have hx := B.exec
  have hb := B.bytes
  have hr := B.returns
  have hts := atoms_spec (ws := wsX8_begin) B.pre
  have hown : s.vm.findClass RX8 = some m.cls := findClass_of_methodNamed B.named
  have hlocks := B.notSynchronized
  subst hsz
  have hD := hD0.self (sz := s.heap.size)
  generalize hAe : va_A [(x0, .inr (8, [.ref k0, .ref h0, .ref c0, .ref t0, .ref m0, .ref d0, .ref s0, .ref o0, .int xu])), (k0, .inr (3, [.long w1, .long w2, .long ov, .int hi])), (t0, .inr (7, [.ref n0, .int xm])), (s0, .inr (6, [.ref p0, .int xl, .int xn]))] s.heap.size = A at hD ⊢
  have hA : ∀ q : Nat, s.heap.size ≤ q → A q := fun q h => by rw [← hAe]; exact Or.inr h
  have hS : va_S A s.heap s.heap [] := va_S.rf
  have hP : va_P (dC, dI) vwCl [(x0, .inr (8, [.ref k0, .ref h0, .ref c0, .ref t0, .ref m0, .ref d0, .ref s0, .ref o0, .int xu])), (k0, .inr (3, [.long w1, .long w2, .long ov, .int hi])), (t0, .inr (7, [.ref n0, .int xm])), (s0, .inr (6, [.ref p0, .int xl, .int xn]))] s.heap := hP
  have hl := lv_entry ([.ref x0, .long x1, .long x2, .long xo, .int (nI hv)]) (n := 8) (Nat.le_of_ble_eq_true rfl)
  rw [lg_entry_eq]
  generalize (lg_sl ([.ref x0, .long x1, .long x2, .long xo, .int (nI hv)]) ++ List.replicate (8 - (lg_sl ([.ref x0, .long x1, .long x2, .long xo, .int (nI hv)])).length) Slot.unset).toArray = ls at hl ⊢
  have iX8 : ∀ w ∈ wsX80, w ∈ wsX8_begin := by decide +kernel
  have f10 := hts (.fieldLink RX8 10 "LeafSigner" "keys" "LLeafSigner$Keys;") (by decide +kernel)
  have f33 := hts (.fieldLink RX8 33 "LeafSigner" "tree" "LLeafSigner$Tree;") (by decide +kernel)
  have f54 := hts (.fieldLink RX8 54 "LeafSigner" "signature" "LLeafSigner$Signature;") (by decide +kernel)
  have f67 := hts (.fieldLink RX8 67 "LeafSigner" "used" "I") (by decide +kernel)
  have hl : lv_has ls 8 [(0, .ref x0), (1, .long x1), (3, .long x2), (5, .long xo), (7, .int (nI hv))] := hl
  refine lv_iload hx hb dX8_begin_0 (lv_at hl 4 rfl) ?_
  refine lv_iconst (v := nI 1) hx hb dX8_begin_2 (by decide) ?_
  refine lv_icmp_lt (tgt := 12) hx hb dX8_begin_3 (by decide) (fun c3 => ?_) (fun c3 => ?_)
  ·
    rw [q_lt (by omega) (by omega)] at c3
    exact absurd c3 (by omega)
  ·
    rw [q_lt (by omega) (by omega)] at c3
    refine lv_iload hx hb dX8_begin_6 (lv_at hl 4 rfl) ?_
    refine lv_iconst (v := nI 4) hx hb dX8_begin_8 (by decide) ?_
    refine lv_icmp_le (tgt := 14) hx hb dX8_begin_9 (by decide) (fun c9 => ?_) (fun c9 => ?_)
    ·
      rw [q_le (by omega) (by omega)] at c9
      refine lv_aload_n hx hb dX8_begin_14 rfl (lv_at hl 0 rfl) ?_
      refine va_get (D := (dC, dI)) (ci := 8) (v := .ref k0) (C := RX8) (T := TX8) (N := 9) hx hb hts iX8 hown hK hP 0 rfl rfl 0 (by decide) f10 (fun _ h9 => h9) rfl dX8_begin_15 ?_
      refine lv_lload_n hx hb dX8_begin_18 rfl (lv_at hl 1 rfl) ?_
      refine lv_lload_n hx hb dX8_begin_19 rfl (lv_at hl 2 rfl) ?_
      refine lv_lload hx hb dX8_begin_20 (lv_at hl 3 rfl) ?_
      refine lv_iload hx hb dX8_begin_22 (lv_at hl 4 rfl) ?_
      refine st_callv (va_runV (As := [.long x1, .long x2, .long xo, .int (nI hv)]) (rest := []) ⟨hx, hb, hml, hown, hts⟩ (c_Keys_renew l dC dI cJ cI k0 w1 w2 ov x1 x2 xo hi (nI hv)  s.heap.size) (cwV 4 hts gX8_begin_X3_renew rfl rfl rfl (by decide +kernel) ⟨Nat.le_of_ble_eq_true rfl, Nat.le_of_ble_eq_true rfl⟩) (st_preV hK hP hD [1] rfl rfl (ci := 3) (q0 := 0) rfl rfl) rfl rfl hl.1 rfl (lv_room (Nat.le_of_ble_eq_true rfl)) dX8_begin_24 ⟨Nat.le_of_ble_eq_true rfl, Nat.le_of_ble_eq_true rfl⟩) hP hD hS hA [1] [0, 2, 3] (wr := [(x0, .inr (8, [.ref k0, .ref h0, .ref c0, .ref t0, .ref m0, .ref d0, .ref s0, .ref o0, .int xu])), (t0, .inr (7, [.ref n0, .int xm])), (s0, .inr (6, [.ref p0, .int xl, .int xn]))]) rfl rfl (by decide) (by decide) [0, 3, 1, 2] (res := fun _ => [(x0, .inr (8, [.ref k0, .ref h0, .ref c0, .ref t0, .ref m0, .ref d0, .ref s0, .ref o0, .int xu])), (k0, .inr (3, [.long x1, .long x2, .long xo, .int (nI hv)])), (t0, .inr (7, [.ref n0, .int xm])), (s0, .inr (6, [.ref p0, .int xl, .int xn]))]) (fun _ => rfl) (by decide) (fun  _ H locs hu hP hD hS => ?_)
      have hP : va_P (dC, dI) vwCl [(x0, .inr (8, [.ref k0, .ref h0, .ref c0, .ref t0, .ref m0, .ref d0, .ref s0, .ref o0, .int xu])), (k0, .inr (3, [.long x1, .long x2, .long xo, .int (nI hv)])), (t0, .inr (7, [.ref n0, .int xm])), (s0, .inr (6, [.ref p0, .int xl, .int xn]))] H := hP
      have hD : va_D A [(x0, .inr (8, [.ref k0, .ref h0, .ref c0, .ref t0, .ref m0, .ref d0, .ref s0, .ref o0, .int xu])), (k0, .inr (3, [.long x1, .long x2, .long xo, .int (nI hv)])), (t0, .inr (7, [.ref n0, .int xm])), (s0, .inr (6, [.ref p0, .int xl, .int xn]))] := hD
      refine lv_aload_n hx hb dX8_begin_27 rfl (lv_at hl 0 rfl) ?_
      refine va_get (D := (dC, dI)) (ci := 8) (v := .ref t0) (C := RX8) (T := TX8) (N := 9) hx hb hts iX8 hown hK hP 0 rfl rfl 3 (by decide) f33 (fun _ h9 => h9) rfl dX8_begin_28 ?_
      refine st_callv (va_runV (As := []) (rest := []) ⟨hx, hb, hml, hown, hts⟩ (c_Tree_clear l dC dI cJ cI t0 n0 xm  H.size) (cwV 0 hts gX8_begin_X7_clear rfl rfl rfl (by decide +kernel) ⟨Nat.le_of_ble_eq_true rfl, Nat.le_of_ble_eq_true rfl⟩) (st_preV hK hP hD [2] rfl rfl (ci := 7) (q0 := 0) rfl rfl) rfl rfl hl.1 rfl (lv_room (Nat.le_of_ble_eq_true rfl)) dX8_begin_31 ⟨Nat.le_of_ble_eq_true rfl, Nat.le_of_ble_eq_true rfl⟩) hP hD hS hA [2] [0, 1, 3] (wr := [(x0, .inr (8, [.ref k0, .ref h0, .ref c0, .ref t0, .ref m0, .ref d0, .ref s0, .ref o0, .int xu])), (k0, .inr (3, [.long x1, .long x2, .long xo, .int (nI hv)])), (s0, .inr (6, [.ref p0, .int xl, .int xn]))]) rfl rfl (by decide) (by decide) [0, 1, 3, 2] (res := fun _ => [(x0, .inr (8, [.ref k0, .ref h0, .ref c0, .ref t0, .ref m0, .ref d0, .ref s0, .ref o0, .int xu])), (k0, .inr (3, [.long x1, .long x2, .long xo, .int (nI hv)])), (t0, .inr (7, [.ref n0, .int (nI 0)])), (s0, .inr (6, [.ref p0, .int xl, .int xn]))]) (fun _ => rfl) (by decide) (fun  _ H locs hu hP hD hS => ?_)
      have hP : va_P (dC, dI) vwCl [(x0, .inr (8, [.ref k0, .ref h0, .ref c0, .ref t0, .ref m0, .ref d0, .ref s0, .ref o0, .int xu])), (k0, .inr (3, [.long x1, .long x2, .long xo, .int (nI hv)])), (t0, .inr (7, [.ref n0, .int (nI 0)])), (s0, .inr (6, [.ref p0, .int xl, .int xn]))] H := hP
      have hD : va_D A [(x0, .inr (8, [.ref k0, .ref h0, .ref c0, .ref t0, .ref m0, .ref d0, .ref s0, .ref o0, .int xu])), (k0, .inr (3, [.long x1, .long x2, .long xo, .int (nI hv)])), (t0, .inr (7, [.ref n0, .int (nI 0)])), (s0, .inr (6, [.ref p0, .int xl, .int xn]))] := hD
      refine lv_aload_n hx hb dX8_begin_34 rfl (lv_at hl 0 rfl) ?_
      refine va_get (D := (dC, dI)) (ci := 8) (v := .ref s0) (C := RX8) (T := TX8) (N := 9) hx hb hts iX8 hown hK hP 0 rfl rfl 6 (by decide) f54 (fun _ h9 => h9) rfl dX8_begin_35 ?_
      refine st_callv (va_runV (As := []) (rest := []) ⟨hx, hb, hml, hown, hts⟩ (c_Signature_clear l dC dI cJ cI s0 p0 xl xn  H.size) (cwV 0 hts gX8_begin_X6_clear rfl rfl rfl (by decide +kernel) ⟨Nat.le_of_ble_eq_true rfl, Nat.le_of_ble_eq_true rfl⟩) (st_preV hK hP hD [3] rfl rfl (ci := 6) (q0 := 0) rfl rfl) rfl rfl hl.1 rfl (lv_room (Nat.le_of_ble_eq_true rfl)) dX8_begin_38 ⟨Nat.le_of_ble_eq_true rfl, Nat.le_of_ble_eq_true rfl⟩) hP hD hS hA [3] [0, 1, 2] (wr := [(x0, .inr (8, [.ref k0, .ref h0, .ref c0, .ref t0, .ref m0, .ref d0, .ref s0, .ref o0, .int xu])), (k0, .inr (3, [.long x1, .long x2, .long xo, .int (nI hv)])), (t0, .inr (7, [.ref n0, .int (nI 0)]))]) rfl rfl (by decide) (by decide) [0, 1, 2, 3] (res := fun _ => [(x0, .inr (8, [.ref k0, .ref h0, .ref c0, .ref t0, .ref m0, .ref d0, .ref s0, .ref o0, .int xu])), (k0, .inr (3, [.long x1, .long x2, .long xo, .int (nI hv)])), (t0, .inr (7, [.ref n0, .int (nI 0)])), (s0, .inr (6, [.ref p0, .int (-1), .int (nI 0)]))]) (fun _ => rfl) (by decide) (fun  _ H locs hu hP hD hS => ?_)
      have hP : va_P (dC, dI) vwCl [(x0, .inr (8, [.ref k0, .ref h0, .ref c0, .ref t0, .ref m0, .ref d0, .ref s0, .ref o0, .int xu])), (k0, .inr (3, [.long x1, .long x2, .long xo, .int (nI hv)])), (t0, .inr (7, [.ref n0, .int (nI 0)])), (s0, .inr (6, [.ref p0, .int (-1), .int (nI 0)]))] H := hP
      have hD : va_D A [(x0, .inr (8, [.ref k0, .ref h0, .ref c0, .ref t0, .ref m0, .ref d0, .ref s0, .ref o0, .int xu])), (k0, .inr (3, [.long x1, .long x2, .long xo, .int (nI hv)])), (t0, .inr (7, [.ref n0, .int (nI 0)])), (s0, .inr (6, [.ref p0, .int (-1), .int (nI 0)]))] := hD
      refine lv_aload_n hx hb dX8_begin_41 rfl (lv_at hl 0 rfl) ?_
      refine lv_iconst (v := nI 0) hx hb dX8_begin_42 (by decide) ?_
      refine va_put (D := (dC, dI)) (ci := 8) (v := .int (nI 0)) (ty := .int) (C := RX8) (T := TX8) (N := 9) hx hb hts iX8 tyX8 tyX8_ok nmX8 hown hK hP hD hS 0 rfl rfl 8 (by decide) f67 (fun _ h9 => h9) rfl (by decide +kernel) rfl rfl (Nat.le_of_ble_eq_true rfl) dX8_begin_43 (fun H locs hP hD hS => ?_)
      have hP : va_P (dC, dI) vwCl [(x0, .inr (8, [.ref k0, .ref h0, .ref c0, .ref t0, .ref m0, .ref d0, .ref s0, .ref o0, .int (nI 0)])), (k0, .inr (3, [.long x1, .long x2, .long xo, .int (nI hv)])), (t0, .inr (7, [.ref n0, .int (nI 0)])), (s0, .inr (6, [.ref p0, .int (-1), .int (nI 0)]))] H := hP
      have hD : va_D A [(x0, .inr (8, [.ref k0, .ref h0, .ref c0, .ref t0, .ref m0, .ref d0, .ref s0, .ref o0, .int (nI 0)])), (k0, .inr (3, [.long x1, .long x2, .long xo, .int (nI hv)])), (t0, .inr (7, [.ref n0, .int (nI 0)])), (s0, .inr (6, [.ref p0, .int (-1), .int (nI 0)]))] := hD
      refine lv_iconst (v := nI 1) hx hb dX8_begin_46 (by decide) ?_
      exact W.iret (v := nI 1) hx hb hr (fun t ht hW => ⟨⟨nI 1, (), rfl, rfl, by rw [ht]; exact hP, va_K.moved hW.alike hK, hD⟩, hS.F ht⟩) hS.2.2 dX8_begin_47
    ·
      rw [q_le (by omega) (by omega)] at c9
      exact absurd c9 (by omega)

set_option maxHeartbeats 4000000 in
set_option maxRecDepth 100000 in
theorem c_grow_no (l : Launch) (dC : Nat → ClassId) (dI : Nat → Nat → Nat) (cJ cI : ClassId) (x0 k0 h0 c0 t0 m0 d0 s0 o0 : Nat) (xv xu : Int32) (hbad : ¬ nI 1 ≤ xv) (sz : Nat) : Met l yX8_grow wsX8_grow ({ frames := 0, cells := 0, slots := 0, locals := 0 }) (va_Pc [.ref x0, .int xv] (st_B (dC, dI) vwCl [(cJ, .long), (cI, .int)] [(x0, .inr (8, [.ref k0, .ref h0, .ref c0, .ref t0, .ref m0, .ref d0, .ref s0, .ref o0, .int xu]))] sz)) (va_Qi (fun (r : Int32) (_ : Unit) => r = -1) (st_E (dC, dI) vwCl [(cJ, .long), (cI, .int)] (va_A [(x0, .inr (8, [.ref k0, .ref h0, .ref c0, .ref t0, .ref m0, .ref d0, .ref s0, .ref o0, .int xu]))] sz) (fun _ => [(x0, .inr (8, [.ref k0, .ref h0, .ref c0, .ref t0, .ref m0, .ref d0, .ref s0, .ref o0, .int xu]))])) (va_A [(x0, .inr (8, [.ref k0, .ref h0, .ref c0, .ref t0, .ref m0, .ref d0, .ref s0, .ref o0, .int xu]))] sz)) 0 0 (va_A [(x0, .inr (8, [.ref k0, .ref h0, .ref c0, .ref t0, .ref m0, .ref d0, .ref s0, .ref o0, .int xu]))] sz) := by
  refine Met.ofW (cc := cX8_grow) (maxL := 5) (ret := (some .int)) (by decide) rfl ?_
  intro p e s m args below meth c s₁ B hml hv
  obtain ⟨rfl, hsz, hP, hK, hD0⟩ := hv
  have hx := B.exec
  have hb := B.bytes
  have hr := B.returns
  have hts := atoms_spec (ws := wsX8_grow) B.pre
  have hown : s.vm.findClass RX8 = some m.cls := findClass_of_methodNamed B.named
  have hlocks := B.notSynchronized
  subst hsz
  have hD := hD0.self (sz := s.heap.size)
  generalize hAe : va_A [(x0, .inr (8, [.ref k0, .ref h0, .ref c0, .ref t0, .ref m0, .ref d0, .ref s0, .ref o0, .int xu]))] s.heap.size = A at hD ⊢
  have hA : ∀ q : Nat, s.heap.size ≤ q → A q := fun q h => by rw [← hAe]; exact Or.inr h
  have hS : va_S A s.heap s.heap [] := va_S.rf
  have hP : va_P (dC, dI) vwCl [(x0, .inr (8, [.ref k0, .ref h0, .ref c0, .ref t0, .ref m0, .ref d0, .ref s0, .ref o0, .int xu]))] s.heap := hP
  have hl := lv_entry ([.ref x0, .int xv]) (n := 5) (Nat.le_of_ble_eq_true rfl)
  rw [lg_entry_eq]
  generalize (lg_sl ([.ref x0, .int xv]) ++ List.replicate (5 - (lg_sl ([.ref x0, .int xv])).length) Slot.unset).toArray = ls at hl ⊢
  have hl : lv_has ls 5 [(0, .ref x0), (1, .int xv)] := hl
  refine lv_iload_n hx hb dX8_grow_0 rfl (lv_at hl 1 rfl) ?_
  refine lv_iconst (v := nI 1) hx hb dX8_grow_1 (by decide) ?_
  refine lv_icmp_ge (tgt := 7) hx hb dX8_grow_2 (by decide) (fun c2 => ?_) (fun c2 => ?_)
  ·
    exact absurd c2 hbad
  ·
    refine lv_iconst (v := -1) hx hb dX8_grow_5 (by decide) ?_
    exact W.iret (v := -1) hx hb hr (fun t ht hW => ⟨⟨-1, (), rfl, rfl, by rw [ht]; exact hP, va_K.moved hW.alike hK, hD⟩, hS.F ht⟩) hS.2.2 dX8_grow_6

set_option maxHeartbeats 4000000 in
set_option maxRecDepth 100000 in
theorem c_LeafSigner_node (l : Launch) (dC : Nat → ClassId) (dI : Nat → Nat → Nat) (cJ cI : ClassId) (x0 k0 h0 c0 t0 m0 d0 s0 o0 n0 n1 : Nat) (w1 w2 ov : Int64) (hh md : Nat) (xl xi xh xu : Int32) (nf : Nat → Int64) (h4 : hh ≤ 4) (hmd : md ≤ 2 ^ hh) (hN : NOK w1 w2 ov hh md nf) (sz : Nat) : Met l yX8_node wsX8_node ({ frames := 1, cells := 0, slots := 0, locals := 23 }) (va_Pc [.ref x0, .int xl, .int xi, .int xh] (st_B (dC, dI) vwCl [(cJ, .long), (cI, .int)] [(x0, .inr (8, [.ref k0, .ref h0, .ref c0, .ref t0, .ref m0, .ref d0, .ref s0, .ref o0, .int xu])), (k0, .inr (3, [.long w1, .long w2, .long ov, .int (nI hh)])), (t0, .inr (7, [.ref n0, .int (nI md)])), (n0, .inr (5, [.ref n1])), (n1, .inl (cJ, 64, .inr (.inl (nf))))] sz)) (va_Ql (fun (r : Int64) (_ : Unit) => r = ndA w1 w2 ov hh md xl xi xh) (st_E (dC, dI) vwCl [(cJ, .long), (cI, .int)] (va_A [(x0, .inr (8, [.ref k0, .ref h0, .ref c0, .ref t0, .ref m0, .ref d0, .ref s0, .ref o0, .int xu])), (k0, .inr (3, [.long w1, .long w2, .long ov, .int (nI hh)])), (t0, .inr (7, [.ref n0, .int (nI md)])), (n0, .inr (5, [.ref n1])), (n1, .inl (cJ, 64, .inr (.inl (nf))))] sz) (fun _ => [(x0, .inr (8, [.ref k0, .ref h0, .ref c0, .ref t0, .ref m0, .ref d0, .ref s0, .ref o0, .int xu])), (k0, .inr (3, [.long w1, .long w2, .long ov, .int (nI hh)])), (t0, .inr (7, [.ref n0, .int (nI md)])), (n0, .inr (5, [.ref n1])), (n1, .inl (cJ, 64, .inr (.inl (nf))))])) (va_A [(x0, .inr (8, [.ref k0, .ref h0, .ref c0, .ref t0, .ref m0, .ref d0, .ref s0, .ref o0, .int xu])), (k0, .inr (3, [.long w1, .long w2, .long ov, .int (nI hh)])), (t0, .inr (7, [.ref n0, .int (nI md)])), (n0, .inr (5, [.ref n1])), (n1, .inl (cJ, 64, .inr (.inl (nf))))] sz)) 0 0 (va_A [(x0, .inr (8, [.ref k0, .ref h0, .ref c0, .ref t0, .ref m0, .ref d0, .ref s0, .ref o0, .int xu])), (k0, .inr (3, [.long w1, .long w2, .long ov, .int (nI hh)])), (t0, .inr (7, [.ref n0, .int (nI md)])), (n0, .inr (5, [.ref n1])), (n1, .inl (cJ, 64, .inr (.inl (nf))))] sz) := by
  refine Met.ofW (cc := cX8_node) (maxL := 4) (ret := (some .long)) (by decide) rfl ?_
  intro p e s m args below meth c s₁ B hml hv
  obtain ⟨rfl, hsz, hP, hK, hD0⟩ := hv
  have hx := B.exec
  have hb := B.bytes
  have hr := B.returns
  have hts := atoms_spec (ws := wsX8_node) B.pre
  have hown : s.vm.findClass RX8 = some m.cls := findClass_of_methodNamed B.named
  have hlocks := B.notSynchronized
  subst hsz
  have hD := hD0.self (sz := s.heap.size)
  generalize hAe : va_A [(x0, .inr (8, [.ref k0, .ref h0, .ref c0, .ref t0, .ref m0, .ref d0, .ref s0, .ref o0, .int xu])), (k0, .inr (3, [.long w1, .long w2, .long ov, .int (nI hh)])), (t0, .inr (7, [.ref n0, .int (nI md)])), (n0, .inr (5, [.ref n1])), (n1, .inl (cJ, 64, .inr (.inl (nf))))] s.heap.size = A at hD ⊢
  have hA : ∀ q : Nat, s.heap.size ≤ q → A q := fun q h => by rw [← hAe]; exact Or.inr h
  have hS : va_S A s.heap s.heap [] := va_S.rf
  have hP : va_P (dC, dI) vwCl [(x0, .inr (8, [.ref k0, .ref h0, .ref c0, .ref t0, .ref m0, .ref d0, .ref s0, .ref o0, .int xu])), (k0, .inr (3, [.long w1, .long w2, .long ov, .int (nI hh)])), (t0, .inr (7, [.ref n0, .int (nI md)])), (n0, .inr (5, [.ref n1])), (n1, .inl (cJ, 64, .inr (.inl (nf))))] s.heap := hP
  have hl := lv_entry ([.ref x0, .int xl, .int xi, .int xh]) (n := 4) (Nat.le_of_ble_eq_true rfl)
  rw [lg_entry_eq]
  generalize (lg_sl ([.ref x0, .int xl, .int xi, .int xh]) ++ List.replicate (4 - (lg_sl ([.ref x0, .int xl, .int xi, .int xh])).length) Slot.unset).toArray = ls at hl ⊢
  have iX8 : ∀ w ∈ wsX80, w ∈ wsX8_node := by decide +kernel
  have iX3 : ∀ w ∈ wsX30, w ∈ wsX8_node := by decide +kernel
  have iX7 : ∀ w ∈ wsX70, w ∈ wsX8_node := by decide +kernel
  have f33 := hts (.fieldLink RX8 33 "LeafSigner" "tree" "LLeafSigner$Tree;") (by decide +kernel)
  have f10 := hts (.fieldLink RX8 10 "LeafSigner" "keys" "LLeafSigner$Keys;") (by decide +kernel)
  have f115 := hts (.fieldLink RX8 115 "LeafSigner$Keys" "height" "I") (by decide +kernel)
  have f122 := hts (.fieldLink RX8 122 "LeafSigner$Tree" "nodes" "LLeafSigner$Pairs;") (by decide +kernel)
  have hl : lv_has ls 4 [(0, .ref x0), (1, .int xl), (2, .int xi), (3, .int xh)] := hl
  have hp := p2_le h4
  refine lv_iload_n hx hb dX8_node_0 rfl (lv_at hl 3 rfl) ?_
  refine st_calli (va_runS (As := [.int xh]) (rest := []) ⟨hx, hb, hml, hown, hts⟩ (c_LeafSigner_isHalf l dC dI cJ cI  xh  s.heap.size) (va_cwS 1 hts gX8_node_X8_isHalf rfl rfl rfl (by decide +kernel) ⟨Nat.le_of_ble_eq_true rfl, Nat.le_of_ble_eq_true rfl⟩) (st_preS hK hP hD [] rfl rfl) rfl rfl hl.1 rfl (lv_room (Nat.le_of_ble_eq_true rfl)) dX8_node_1 ⟨Nat.le_of_ble_eq_true rfl, Nat.le_of_ble_eq_true rfl⟩) hP hD hS hA [] [0, 1, 2, 3, 4] (wr := [(x0, .inr (8, [.ref k0, .ref h0, .ref c0, .ref t0, .ref m0, .ref d0, .ref s0, .ref o0, .int xu])), (k0, .inr (3, [.long w1, .long w2, .long ov, .int (nI hh)])), (t0, .inr (7, [.ref n0, .int (nI md)])), (n0, .inr (5, [.ref n1])), (n1, .inl (cJ, 64, .inr (.inl (nf))))]) rfl rfl (by decide) (by decide) [0, 1, 2, 3, 4] (res := fun _ => [(x0, .inr (8, [.ref k0, .ref h0, .ref c0, .ref t0, .ref m0, .ref d0, .ref s0, .ref o0, .int xu])), (k0, .inr (3, [.long w1, .long w2, .long ov, .int (nI hh)])), (t0, .inr (7, [.ref n0, .int (nI md)])), (n0, .inr (5, [.ref n1])), (n1, .inl (cJ, 64, .inr (.inl (nf))))]) (fun _ => rfl) (by decide) (fun r_1 _ H locs hu hP hD hS => ?_)
  have hP : va_P (dC, dI) vwCl [(x0, .inr (8, [.ref k0, .ref h0, .ref c0, .ref t0, .ref m0, .ref d0, .ref s0, .ref o0, .int xu])), (k0, .inr (3, [.long w1, .long w2, .long ov, .int (nI hh)])), (t0, .inr (7, [.ref n0, .int (nI md)])), (n0, .inr (5, [.ref n1])), (n1, .inl (cJ, 64, .inr (.inl (nf))))] H := hP
  have hD : va_D A [(x0, .inr (8, [.ref k0, .ref h0, .ref c0, .ref t0, .ref m0, .ref d0, .ref s0, .ref o0, .int xu])), (k0, .inr (3, [.long w1, .long w2, .long ov, .int (nI hh)])), (t0, .inr (7, [.ref n0, .int (nI md)])), (n0, .inr (5, [.ref n1])), (n1, .inl (cJ, 64, .inr (.inl (nf))))] := hD
  subst hu
  refine lv_if_eq (tgt := 26) hx hb dX8_node_4 (by decide) (fun c4 => ?_) (fun c4 => ?_)
  ·
    rw [q_b0] at c4
    refine lv_lconst (v := lN 0) hx hb dX8_node_26 (by decide) ?_
    exact W.lret (v := lN 0) hx hb hr (fun t ht hW => ⟨⟨lN 0, (), rfl, ndA_n (fun q => db_f c4 q.1), by rw [ht]; exact hP, va_K.moved hW.alike hK, hD⟩, hS.F ht⟩) hS.2.2 dX8_node_27
  ·
    rw [q_b0] at c4
    refine lv_aload_n hx hb dX8_node_7 rfl (lv_at hl 0 rfl) ?_
    refine va_get (D := (dC, dI)) (ci := 8) (v := .ref t0) (C := RX8) (T := TX8) (N := 9) hx hb hts iX8 hown hK hP 0 rfl rfl 3 (by decide) f33 (fun _ h9 => h9) rfl dX8_node_8 ?_
    refine lv_aload_n hx hb dX8_node_11 rfl (lv_at hl 0 rfl) ?_
    refine va_get (D := (dC, dI)) (ci := 8) (v := .ref k0) (C := RX8) (T := TX8) (N := 9) hx hb hts iX8 hown hK hP 0 rfl rfl 0 (by decide) f10 (fun _ h9 => h9) rfl dX8_node_12 ?_
    refine va_get (D := (dC, dI)) (ci := 3) (v := .int (nI hh)) (C := RX3) (T := TX3) (N := 4) hx hb hts iX3 hown hK hP 1 rfl rfl 3 (by decide) f115 (fun _ h9 => h9) rfl dX8_node_15 ?_
    refine lv_iload_n hx hb dX8_node_18 rfl (lv_at hl 1 rfl) ?_
    refine lv_iload_n hx hb dX8_node_19 rfl (lv_at hl 2 rfl) ?_
    refine st_calli (va_runV (As := [.int (nI hh), .int xl, .int xi]) (rest := []) ⟨hx, hb, hml, hown, hts⟩ (c_Tree_isMade l dC dI cJ cI t0 n0 hh md xl xi (by omega) (by omega) H.size) (cwV 3 hts gX8_node_X7_isMade rfl rfl rfl (by decide +kernel) ⟨Nat.le_of_ble_eq_true rfl, Nat.le_of_ble_eq_true rfl⟩) (st_preV hK hP hD [2] rfl rfl (ci := 7) (q0 := 0) rfl rfl) rfl rfl hl.1 rfl (lv_room (Nat.le_of_ble_eq_true rfl)) dX8_node_20 ⟨Nat.le_of_ble_eq_true rfl, Nat.le_of_ble_eq_true rfl⟩) hP hD hS hA [2] [0, 1, 3, 4] (wr := [(x0, .inr (8, [.ref k0, .ref h0, .ref c0, .ref t0, .ref m0, .ref d0, .ref s0, .ref o0, .int xu])), (k0, .inr (3, [.long w1, .long w2, .long ov, .int (nI hh)])), (n0, .inr (5, [.ref n1])), (n1, .inl (cJ, 64, .inr (.inl (nf))))]) rfl rfl (by decide) (by decide) [0, 1, 4, 2, 3] (res := fun _ => [(x0, .inr (8, [.ref k0, .ref h0, .ref c0, .ref t0, .ref m0, .ref d0, .ref s0, .ref o0, .int xu])), (k0, .inr (3, [.long w1, .long w2, .long ov, .int (nI hh)])), (t0, .inr (7, [.ref n0, .int (nI md)])), (n0, .inr (5, [.ref n1])), (n1, .inl (cJ, 64, .inr (.inl (nf))))]) (fun _ => rfl) (by decide) (fun r_2 _ H locs hu hP hD hS => ?_)
    have hP : va_P (dC, dI) vwCl [(x0, .inr (8, [.ref k0, .ref h0, .ref c0, .ref t0, .ref m0, .ref d0, .ref s0, .ref o0, .int xu])), (k0, .inr (3, [.long w1, .long w2, .long ov, .int (nI hh)])), (t0, .inr (7, [.ref n0, .int (nI md)])), (n0, .inr (5, [.ref n1])), (n1, .inl (cJ, 64, .inr (.inl (nf))))] H := hP
    have hD : va_D A [(x0, .inr (8, [.ref k0, .ref h0, .ref c0, .ref t0, .ref m0, .ref d0, .ref s0, .ref o0, .int xu])), (k0, .inr (3, [.long w1, .long w2, .long ov, .int (nI hh)])), (t0, .inr (7, [.ref n0, .int (nI md)])), (n0, .inr (5, [.ref n1])), (n1, .inl (cJ, 64, .inr (.inl (nf))))] := hD
    subst hu
    refine lv_if_ne (tgt := 28) hx hb dX8_node_23 (by decide) (fun c23 => ?_) (fun c23 => ?_)
    ·
      rw [q_b0] at c23
      obtain ⟨lv, iv, hlv, hiv, hM, rfl, rfl⟩ := isM_get h4 (bf_not c23)
      obtain ⟨hf, hf1, rfl⟩ := half_get (db_t c4)
      have hsl := slot_lt h4 hlv hmd hM
      refine lv_aload_n hx hb dX8_node_28 rfl (lv_at hl 0 rfl) ?_
      refine va_get (D := (dC, dI)) (ci := 8) (v := .ref t0) (C := RX8) (T := TX8) (N := 9) hx hb hts iX8 hown hK hP 0 rfl rfl 3 (by decide) f33 (fun _ h9 => h9) rfl dX8_node_29 ?_
      refine va_get (D := (dC, dI)) (ci := 7) (v := .ref n0) (C := RX7) (T := TX7) (N := 2) hx hb hts iX7 hown hK hP 2 rfl rfl 0 (by decide) f122 (fun _ h9 => h9) rfl dX8_node_32 ?_
      refine lv_aload_n hx hb dX8_node_35 rfl (lv_at hl 0 rfl) ?_
      refine va_get (D := (dC, dI)) (ci := 8) (v := .ref k0) (C := RX8) (T := TX8) (N := 9) hx hb hts iX8 hown hK hP 0 rfl rfl 0 (by decide) f10 (fun _ h9 => h9) rfl dX8_node_36 ?_
      refine va_get (D := (dC, dI)) (ci := 3) (v := .int (nI hh)) (C := RX3) (T := TX3) (N := 4) hx hb hts iX3 hown hK hP 1 rfl rfl 3 (by decide) f115 (fun _ h9 => h9) rfl dX8_node_39 ?_
      refine lv_iload_n hx hb dX8_node_42 rfl (lv_at hl 1 rfl) ?_
      refine lv_iload_n hx hb dX8_node_43 rfl (lv_at hl 2 rfl) ?_
      refine st_calli (va_runS (As := [.int (nI hh), .int (nI lv), .int (nI iv)]) (rest := [.ref n0]) ⟨hx, hb, hml, hown, hts⟩ (c_Tree_slot l dC dI cJ cI  hh lv iv (by omega) (by omega) H.size) (va_cwS 3 hts gX8_node_X7_slot rfl rfl rfl (by decide +kernel) ⟨Nat.le_of_ble_eq_true rfl, Nat.le_of_ble_eq_true rfl⟩) (st_preS hK hP hD [] rfl rfl) rfl rfl hl.1 rfl (lv_room (Nat.le_of_ble_eq_true rfl)) dX8_node_44 ⟨Nat.le_of_ble_eq_true rfl, Nat.le_of_ble_eq_true rfl⟩) hP hD hS hA [] [0, 1, 2, 3, 4] (wr := [(x0, .inr (8, [.ref k0, .ref h0, .ref c0, .ref t0, .ref m0, .ref d0, .ref s0, .ref o0, .int xu])), (k0, .inr (3, [.long w1, .long w2, .long ov, .int (nI hh)])), (t0, .inr (7, [.ref n0, .int (nI md)])), (n0, .inr (5, [.ref n1])), (n1, .inl (cJ, 64, .inr (.inl (nf))))]) rfl rfl (by decide) (by decide) [0, 1, 2, 3, 4] (res := fun _ => [(x0, .inr (8, [.ref k0, .ref h0, .ref c0, .ref t0, .ref m0, .ref d0, .ref s0, .ref o0, .int xu])), (k0, .inr (3, [.long w1, .long w2, .long ov, .int (nI hh)])), (t0, .inr (7, [.ref n0, .int (nI md)])), (n0, .inr (5, [.ref n1])), (n1, .inl (cJ, 64, .inr (.inl (nf))))]) (fun _ => rfl) (by decide) (fun r_3 _ H locs hu hP hD hS => ?_)
      have hP : va_P (dC, dI) vwCl [(x0, .inr (8, [.ref k0, .ref h0, .ref c0, .ref t0, .ref m0, .ref d0, .ref s0, .ref o0, .int xu])), (k0, .inr (3, [.long w1, .long w2, .long ov, .int (nI hh)])), (t0, .inr (7, [.ref n0, .int (nI md)])), (n0, .inr (5, [.ref n1])), (n1, .inl (cJ, 64, .inr (.inl (nf))))] H := hP
      have hD : va_D A [(x0, .inr (8, [.ref k0, .ref h0, .ref c0, .ref t0, .ref m0, .ref d0, .ref s0, .ref o0, .int xu])), (k0, .inr (3, [.long w1, .long w2, .long ov, .int (nI hh)])), (t0, .inr (7, [.ref n0, .int (nI md)])), (n0, .inr (5, [.ref n1])), (n1, .inl (cJ, 64, .inr (.inl (nf))))] := hD
      subst hu
      refine lv_iload_n hx hb dX8_node_47 rfl (lv_at hl 3 rfl) ?_
      refine st_calll (va_runV (As := [.int (nI (2 ^ (hh - lv) + iv)), .int (nI hf)]) (rest := []) ⟨hx, hb, hml, hown, hts⟩ (c_Pairs_at l dC dI cJ cI n0 n1 64 nf (2 ^ (hh - lv) + iv) hf (by omega) (by omega) H.size) (cwV 2 hts gX8_node_X5_at rfl rfl rfl (by decide +kernel) ⟨Nat.le_of_ble_eq_true rfl, Nat.le_of_ble_eq_true rfl⟩) (st_preV hK hP hD [3, 4] rfl rfl (ci := 5) (q0 := 0) rfl rfl) rfl rfl hl.1 rfl (lv_room (Nat.le_of_ble_eq_true rfl)) dX8_node_48 ⟨Nat.le_of_ble_eq_true rfl, Nat.le_of_ble_eq_true rfl⟩) hP hD hS hA [3, 4] [0, 1, 2] (wr := [(x0, .inr (8, [.ref k0, .ref h0, .ref c0, .ref t0, .ref m0, .ref d0, .ref s0, .ref o0, .int xu])), (k0, .inr (3, [.long w1, .long w2, .long ov, .int (nI hh)])), (t0, .inr (7, [.ref n0, .int (nI md)]))]) rfl rfl (by decide) (by decide) [0, 1, 2, 3, 4] (res := fun _ => [(x0, .inr (8, [.ref k0, .ref h0, .ref c0, .ref t0, .ref m0, .ref d0, .ref s0, .ref o0, .int xu])), (k0, .inr (3, [.long w1, .long w2, .long ov, .int (nI hh)])), (t0, .inr (7, [.ref n0, .int (nI md)])), (n0, .inr (5, [.ref n1])), (n1, .inl (cJ, 64, .inr (.inl (nf))))]) (fun _ => rfl) (by decide) (fun r_4 _ H locs hu hP hD hS => ?_)
      have hP : va_P (dC, dI) vwCl [(x0, .inr (8, [.ref k0, .ref h0, .ref c0, .ref t0, .ref m0, .ref d0, .ref s0, .ref o0, .int xu])), (k0, .inr (3, [.long w1, .long w2, .long ov, .int (nI hh)])), (t0, .inr (7, [.ref n0, .int (nI md)])), (n0, .inr (5, [.ref n1])), (n1, .inl (cJ, 64, .inr (.inl (nf))))] H := hP
      have hD : va_D A [(x0, .inr (8, [.ref k0, .ref h0, .ref c0, .ref t0, .ref m0, .ref d0, .ref s0, .ref o0, .int xu])), (k0, .inr (3, [.long w1, .long w2, .long ov, .int (nI hh)])), (t0, .inr (7, [.ref n0, .int (nI md)])), (n0, .inr (5, [.ref n1])), (n1, .inl (cJ, 64, .inr (.inl (nf))))] := hD
      subst hu
      exact W.lret (v := nf (2 * (2 ^ (hh - lv) + iv) + hf)) hx hb hr (fun t ht hW => ⟨⟨nf (2 * (2 ^ (hh - lv) + iv) + hf), (), rfl, by rw [ndA_y h4 hf1 hlv hiv hM, ← hN lv iv hlv hM]; exact hlf_at _ _ hf1, by rw [ht]; exact hP, va_K.moved hW.alike hK, hD⟩, hS.F ht⟩) hS.2.2 dX8_node_51
    ·
      rw [q_b0] at c23
      refine lv_lconst (v := lN 0) hx hb dX8_node_26 (by decide) ?_
      exact W.lret (v := lN 0) hx hb hr (fun t ht hW => ⟨⟨lN 0, (), rfl, ndA_n (fun q => by rw [q.2] at c23; exact absurd c23 (by decide)), by rw [ht]; exact hP, va_K.moved hW.alike hK, hD⟩, hS.F ht⟩) hS.2.2 dX8_node_27

set_option maxHeartbeats 4000000 in
set_option maxRecDepth 100000 in
theorem c_feed_no (l : Launch) (dC : Nat → ClassId) (dI : Nat → Nat → Nat) (cJ cI : ClassId) (x0 k0 h0 c0 t0 m0 d0 s0 o0 m1 : Nat) (xv : Int64) (xu : Int32) (ln : Nat) (mv : Nat → Int64) (hln : ln = 20) (sz : Nat) : Met l yX8_feed wsX8_feed ({ frames := 1, cells := 0, slots := 0, locals := 20 }) (va_Pc [.ref x0, .long xv] (st_B (dC, dI) vwCl [(cJ, .long), (cI, .int)] [(x0, .inr (8, [.ref k0, .ref h0, .ref c0, .ref t0, .ref m0, .ref d0, .ref s0, .ref o0, .int xu])), (m0, .inr (4, [.ref m1, .int (nI ln)])), (m1, .inl (cJ, 20, .inr (.inl (mv))))] sz)) (va_Qi (fun (r : Int32) (_ : Unit) => r = -1) (st_E (dC, dI) vwCl [(cJ, .long), (cI, .int)] (va_A [(x0, .inr (8, [.ref k0, .ref h0, .ref c0, .ref t0, .ref m0, .ref d0, .ref s0, .ref o0, .int xu])), (m0, .inr (4, [.ref m1, .int (nI ln)])), (m1, .inl (cJ, 20, .inr (.inl (mv))))] sz) (fun _ => [(x0, .inr (8, [.ref k0, .ref h0, .ref c0, .ref t0, .ref m0, .ref d0, .ref s0, .ref o0, .int xu])), (m0, .inr (4, [.ref m1, .int (nI ln)])), (m1, .inl (cJ, 20, .inr (.inl (mv))))])) (va_A [(x0, .inr (8, [.ref k0, .ref h0, .ref c0, .ref t0, .ref m0, .ref d0, .ref s0, .ref o0, .int xu])), (m0, .inr (4, [.ref m1, .int (nI ln)])), (m1, .inl (cJ, 20, .inr (.inl (mv))))] sz)) 0 0 (va_A [(x0, .inr (8, [.ref k0, .ref h0, .ref c0, .ref t0, .ref m0, .ref d0, .ref s0, .ref o0, .int xu])), (m0, .inr (4, [.ref m1, .int (nI ln)])), (m1, .inl (cJ, 20, .inr (.inl (mv))))] sz) := by
  refine Met.ofW (cc := cX8_feed) (maxL := 3) (ret := (some .int)) (by decide) rfl ?_
  intro p e s m args below meth c s₁ B hml hv
  obtain ⟨rfl, hsz, hP, hK, hD0⟩ := hv
  have hx := B.exec
  have hb := B.bytes
  have hr := B.returns
  have hts := atoms_spec (ws := wsX8_feed) B.pre
  have hown : s.vm.findClass RX8 = some m.cls := findClass_of_methodNamed B.named
  have hlocks := B.notSynchronized
  subst hsz
  have hD := hD0.self (sz := s.heap.size)
  generalize hAe : va_A [(x0, .inr (8, [.ref k0, .ref h0, .ref c0, .ref t0, .ref m0, .ref d0, .ref s0, .ref o0, .int xu])), (m0, .inr (4, [.ref m1, .int (nI ln)])), (m1, .inl (cJ, 20, .inr (.inl (mv))))] s.heap.size = A at hD ⊢
  have hA : ∀ q : Nat, s.heap.size ≤ q → A q := fun q h => by rw [← hAe]; exact Or.inr h
  have hS : va_S A s.heap s.heap [] := va_S.rf
  have hP : va_P (dC, dI) vwCl [(x0, .inr (8, [.ref k0, .ref h0, .ref c0, .ref t0, .ref m0, .ref d0, .ref s0, .ref o0, .int xu])), (m0, .inr (4, [.ref m1, .int (nI ln)])), (m1, .inl (cJ, 20, .inr (.inl (mv))))] s.heap := hP
  have hl := lv_entry ([.ref x0, .long xv]) (n := 3) (Nat.le_of_ble_eq_true rfl)
  rw [lg_entry_eq]
  generalize (lg_sl ([.ref x0, .long xv]) ++ List.replicate (3 - (lg_sl ([.ref x0, .long xv])).length) Slot.unset).toArray = ls at hl ⊢
  have iX8 : ∀ w ∈ wsX80, w ∈ wsX8_feed := by decide +kernel
  have f40 := hts (.fieldLink RX8 40 "LeafSigner" "message" "LLeafSigner$Message;") (by decide +kernel)
  have hl : lv_has ls 3 [(0, .ref x0), (1, .long xv)] := hl
  refine lv_aload_n hx hb dX8_feed_0 rfl (lv_at hl 0 rfl) ?_
  refine va_get (D := (dC, dI)) (ci := 8) (v := .ref m0) (C := RX8) (T := TX8) (N := 9) hx hb hts iX8 hown hK hP 0 rfl rfl 4 (by decide) f40 (fun _ h9 => h9) rfl dX8_feed_1 ?_
  refine st_calli (va_runV (As := []) (rest := []) ⟨hx, hb, hml, hown, hts⟩ (c_Message_isFull l dC dI cJ cI m0 m1 ln mv (by omega) s.heap.size) (cwV 0 hts gX8_feed_X4_isFull rfl rfl rfl (by decide +kernel) ⟨Nat.le_of_ble_eq_true rfl, Nat.le_of_ble_eq_true rfl⟩) (st_preV hK hP hD [1, 2] rfl rfl (ci := 4) (q0 := 0) rfl rfl) rfl rfl hl.1 rfl (lv_room (Nat.le_of_ble_eq_true rfl)) dX8_feed_4 ⟨Nat.le_of_ble_eq_true rfl, Nat.le_of_ble_eq_true rfl⟩) hP hD hS hA [1, 2] [0] (wr := [(x0, .inr (8, [.ref k0, .ref h0, .ref c0, .ref t0, .ref m0, .ref d0, .ref s0, .ref o0, .int xu]))]) rfl rfl (by decide) (by decide) [0, 1, 2] (res := fun _ => [(x0, .inr (8, [.ref k0, .ref h0, .ref c0, .ref t0, .ref m0, .ref d0, .ref s0, .ref o0, .int xu])), (m0, .inr (4, [.ref m1, .int (nI ln)])), (m1, .inl (cJ, 20, .inr (.inl (mv))))]) (fun _ => rfl) (by decide) (fun r_1 _ H locs hu hP hD hS => ?_)
  have hP : va_P (dC, dI) vwCl [(x0, .inr (8, [.ref k0, .ref h0, .ref c0, .ref t0, .ref m0, .ref d0, .ref s0, .ref o0, .int xu])), (m0, .inr (4, [.ref m1, .int (nI ln)])), (m1, .inl (cJ, 20, .inr (.inl (mv))))] H := hP
  have hD : va_D A [(x0, .inr (8, [.ref k0, .ref h0, .ref c0, .ref t0, .ref m0, .ref d0, .ref s0, .ref o0, .int xu])), (m0, .inr (4, [.ref m1, .int (nI ln)])), (m1, .inl (cJ, 20, .inr (.inl (mv))))] := hD
  subst hu
  refine lv_if_eq (tgt := 12) hx hb dX8_feed_7 (by decide) (fun c7 => ?_) (fun c7 => ?_)
  ·
    rw [q_b0] at c7
    exact absurd (by omega) (db_f c7)
  ·
    rw [q_b0] at c7
    refine lv_iconst (v := -1) hx hb dX8_feed_10 (by decide) ?_
    exact W.iret (v := -1) hx hb hr (fun t ht hW => ⟨⟨-1, (), rfl, rfl, by rw [ht]; exact hP, va_K.moved hW.alike hK, hD⟩, hS.F ht⟩) hS.2.2 dX8_feed_11

set_option maxHeartbeats 4000000 in
set_option maxRecDepth 100000 in
theorem c_feed_ok (l : Launch) (dC : Nat → ClassId) (dI : Nat → Nat → Nat) (cJ cI : ClassId) (x0 k0 h0 c0 t0 m0 d0 s0 o0 m1 : Nat) (xv : Int64) (xu : Int32) (ln : Nat) (mv : Nat → Int64) (hln : ln < 20) (sz : Nat) : Met l yX8_feed wsX8_feed ({ frames := 1, cells := 0, slots := 0, locals := 22 }) (va_Pc [.ref x0, .long xv] (st_B (dC, dI) vwCl [(cJ, .long), (cI, .int)] [(x0, .inr (8, [.ref k0, .ref h0, .ref c0, .ref t0, .ref m0, .ref d0, .ref s0, .ref o0, .int xu])), (m0, .inr (4, [.ref m1, .int (nI ln)])), (m1, .inl (cJ, 20, .inr (.inl (mv))))] sz)) (va_Qi (fun (r : Int32) (_ : Unit) => r = nI (ln + 1)) (st_E (dC, dI) vwCl [(cJ, .long), (cI, .int)] (va_A [(x0, .inr (8, [.ref k0, .ref h0, .ref c0, .ref t0, .ref m0, .ref d0, .ref s0, .ref o0, .int xu])), (m0, .inr (4, [.ref m1, .int (nI ln)])), (m1, .inl (cJ, 20, .inr (.inl (mv))))] sz) (fun _ => [(x0, .inr (8, [.ref k0, .ref h0, .ref c0, .ref t0, .ref m0, .ref d0, .ref s0, .ref o0, .int xu])), (m0, .inr (4, [.ref m1, .int (nI (ln + 1))])), (m1, .inl (cJ, 20, .inr (.inl (vp_updL mv ln xv))))])) (va_A [(x0, .inr (8, [.ref k0, .ref h0, .ref c0, .ref t0, .ref m0, .ref d0, .ref s0, .ref o0, .int xu])), (m0, .inr (4, [.ref m1, .int (nI ln)])), (m1, .inl (cJ, 20, .inr (.inl (mv))))] sz)) 0 0 (va_A [(x0, .inr (8, [.ref k0, .ref h0, .ref c0, .ref t0, .ref m0, .ref d0, .ref s0, .ref o0, .int xu])), (m0, .inr (4, [.ref m1, .int (nI ln)])), (m1, .inl (cJ, 20, .inr (.inl (mv))))] sz) := by
  refine Met.ofW (cc := cX8_feed) (maxL := 3) (ret := (some .int)) (by decide) rfl ?_
  intro p e s m args below meth c s₁ B hml hv
  obtain ⟨rfl, hsz, hP, hK, hD0⟩ := hv
  have hx := B.exec
  have hb := B.bytes
  have hr := B.returns
  have hts := atoms_spec (ws := wsX8_feed) B.pre
  have hown : s.vm.findClass RX8 = some m.cls := findClass_of_methodNamed B.named
  have hlocks := B.notSynchronized
  subst hsz
  have hD := hD0.self (sz := s.heap.size)
  generalize hAe : va_A [(x0, .inr (8, [.ref k0, .ref h0, .ref c0, .ref t0, .ref m0, .ref d0, .ref s0, .ref o0, .int xu])), (m0, .inr (4, [.ref m1, .int (nI ln)])), (m1, .inl (cJ, 20, .inr (.inl (mv))))] s.heap.size = A at hD ⊢
  have hA : ∀ q : Nat, s.heap.size ≤ q → A q := fun q h => by rw [← hAe]; exact Or.inr h
  have hS : va_S A s.heap s.heap [] := va_S.rf
  have hP : va_P (dC, dI) vwCl [(x0, .inr (8, [.ref k0, .ref h0, .ref c0, .ref t0, .ref m0, .ref d0, .ref s0, .ref o0, .int xu])), (m0, .inr (4, [.ref m1, .int (nI ln)])), (m1, .inl (cJ, 20, .inr (.inl (mv))))] s.heap := hP
  have hl := lv_entry ([.ref x0, .long xv]) (n := 3) (Nat.le_of_ble_eq_true rfl)
  rw [lg_entry_eq]
  generalize (lg_sl ([.ref x0, .long xv]) ++ List.replicate (3 - (lg_sl ([.ref x0, .long xv])).length) Slot.unset).toArray = ls at hl ⊢
  have iX8 : ∀ w ∈ wsX80, w ∈ wsX8_feed := by decide +kernel
  have iX4 : ∀ w ∈ wsX40, w ∈ wsX8_feed := by decide +kernel
  have f40 := hts (.fieldLink RX8 40 "LeafSigner" "message" "LLeafSigner$Message;") (by decide +kernel)
  have f141 := hts (.fieldLink RX8 141 "LeafSigner$Message" "size" "I") (by decide +kernel)
  have hl : lv_has ls 3 [(0, .ref x0), (1, .long xv)] := hl
  refine lv_aload_n hx hb dX8_feed_0 rfl (lv_at hl 0 rfl) ?_
  refine va_get (D := (dC, dI)) (ci := 8) (v := .ref m0) (C := RX8) (T := TX8) (N := 9) hx hb hts iX8 hown hK hP 0 rfl rfl 4 (by decide) f40 (fun _ h9 => h9) rfl dX8_feed_1 ?_
  refine st_calli (va_runV (As := []) (rest := []) ⟨hx, hb, hml, hown, hts⟩ (c_Message_isFull l dC dI cJ cI m0 m1 ln mv (by omega) s.heap.size) (cwV 0 hts gX8_feed_X4_isFull rfl rfl rfl (by decide +kernel) ⟨Nat.le_of_ble_eq_true rfl, Nat.le_of_ble_eq_true rfl⟩) (st_preV hK hP hD [1, 2] rfl rfl (ci := 4) (q0 := 0) rfl rfl) rfl rfl hl.1 rfl (lv_room (Nat.le_of_ble_eq_true rfl)) dX8_feed_4 ⟨Nat.le_of_ble_eq_true rfl, Nat.le_of_ble_eq_true rfl⟩) hP hD hS hA [1, 2] [0] (wr := [(x0, .inr (8, [.ref k0, .ref h0, .ref c0, .ref t0, .ref m0, .ref d0, .ref s0, .ref o0, .int xu]))]) rfl rfl (by decide) (by decide) [0, 1, 2] (res := fun _ => [(x0, .inr (8, [.ref k0, .ref h0, .ref c0, .ref t0, .ref m0, .ref d0, .ref s0, .ref o0, .int xu])), (m0, .inr (4, [.ref m1, .int (nI ln)])), (m1, .inl (cJ, 20, .inr (.inl (mv))))]) (fun _ => rfl) (by decide) (fun r_1 _ H locs hu hP hD hS => ?_)
  have hP : va_P (dC, dI) vwCl [(x0, .inr (8, [.ref k0, .ref h0, .ref c0, .ref t0, .ref m0, .ref d0, .ref s0, .ref o0, .int xu])), (m0, .inr (4, [.ref m1, .int (nI ln)])), (m1, .inl (cJ, 20, .inr (.inl (mv))))] H := hP
  have hD : va_D A [(x0, .inr (8, [.ref k0, .ref h0, .ref c0, .ref t0, .ref m0, .ref d0, .ref s0, .ref o0, .int xu])), (m0, .inr (4, [.ref m1, .int (nI ln)])), (m1, .inl (cJ, 20, .inr (.inl (mv))))] := hD
  subst hu
  refine lv_if_eq (tgt := 12) hx hb dX8_feed_7 (by decide) (fun c7 => ?_) (fun c7 => ?_)
  ·
    rw [q_b0] at c7
    refine lv_aload_n hx hb dX8_feed_12 rfl (lv_at hl 0 rfl) ?_
    refine va_get (D := (dC, dI)) (ci := 8) (v := .ref m0) (C := RX8) (T := TX8) (N := 9) hx hb hts iX8 hown hK hP 0 rfl rfl 4 (by decide) f40 (fun _ h9 => h9) rfl dX8_feed_13 ?_
    refine lv_lload_n hx hb dX8_feed_16 rfl (lv_at hl 1 rfl) ?_
    refine st_callv (va_runV (As := [.long xv]) (rest := []) ⟨hx, hb, hml, hown, hts⟩ (c_Message_append l dC dI cJ cI m0 m1 ln mv xv (by omega) H.size) (cwV 1 hts gX8_feed_X4_append rfl rfl rfl (by decide +kernel) ⟨Nat.le_of_ble_eq_true rfl, Nat.le_of_ble_eq_true rfl⟩) (st_preV hK hP hD [1, 2] rfl rfl (ci := 4) (q0 := 0) rfl rfl) rfl rfl hl.1 rfl (lv_room (Nat.le_of_ble_eq_true rfl)) dX8_feed_17 ⟨Nat.le_of_ble_eq_true rfl, Nat.le_of_ble_eq_true rfl⟩) hP hD hS hA [1, 2] [0] (wr := [(x0, .inr (8, [.ref k0, .ref h0, .ref c0, .ref t0, .ref m0, .ref d0, .ref s0, .ref o0, .int xu]))]) rfl rfl (by decide) (by decide) [0, 1, 2] (res := fun _ => [(x0, .inr (8, [.ref k0, .ref h0, .ref c0, .ref t0, .ref m0, .ref d0, .ref s0, .ref o0, .int xu])), (m0, .inr (4, [.ref m1, .int (nI (ln + 1))])), (m1, .inl (cJ, 20, .inr (.inl (vp_updL mv ln xv))))]) (fun _ => rfl) (by decide) (fun  _ H locs hu hP hD hS => ?_)
    have hP : va_P (dC, dI) vwCl [(x0, .inr (8, [.ref k0, .ref h0, .ref c0, .ref t0, .ref m0, .ref d0, .ref s0, .ref o0, .int xu])), (m0, .inr (4, [.ref m1, .int (nI (ln + 1))])), (m1, .inl (cJ, 20, .inr (.inl (vp_updL mv ln xv))))] H := hP
    have hD : va_D A [(x0, .inr (8, [.ref k0, .ref h0, .ref c0, .ref t0, .ref m0, .ref d0, .ref s0, .ref o0, .int xu])), (m0, .inr (4, [.ref m1, .int (nI (ln + 1))])), (m1, .inl (cJ, 20, .inr (.inl (vp_updL mv ln xv))))] := hD
    refine lv_aload_n hx hb dX8_feed_20 rfl (lv_at hl 0 rfl) ?_
    refine va_get (D := (dC, dI)) (ci := 8) (v := .ref m0) (C := RX8) (T := TX8) (N := 9) hx hb hts iX8 hown hK hP 0 rfl rfl 4 (by decide) f40 (fun _ h9 => h9) rfl dX8_feed_21 ?_
    refine va_get (D := (dC, dI)) (ci := 4) (v := .int (nI (ln + 1))) (C := RX4) (T := TX4) (N := 2) hx hb hts iX4 hown hK hP 1 rfl rfl 1 (by decide) f141 (fun _ h9 => h9) rfl dX8_feed_24 ?_
    exact W.iret (v := nI (ln + 1)) hx hb hr (fun t ht hW => ⟨⟨nI (ln + 1), (), rfl, rfl, by rw [ht]; exact hP, va_K.moved hW.alike hK, hD⟩, hS.F ht⟩) hS.2.2 dX8_feed_27
  ·
    rw [q_b0] at c7
    exact absurd (db_t c7) (by omega)

set_option maxHeartbeats 4000000 in
set_option maxRecDepth 100000 in
theorem c_LeafSigner_reset (l : Launch) (dC : Nat → ClassId) (dI : Nat → Nat → Nat) (cJ cI : ClassId) (x0 k0 h0 c0 t0 m0 d0 s0 o0 m1 : Nat) (xu : Int32) (ln : Nat) (mv : Nat → Int64) (sz : Nat) : Met l yX8_reset wsX8_reset ({ frames := 1, cells := 0, slots := 0, locals := 20 }) (va_Pc [.ref x0] (st_B (dC, dI) vwCl [(cJ, .long), (cI, .int)] [(x0, .inr (8, [.ref k0, .ref h0, .ref c0, .ref t0, .ref m0, .ref d0, .ref s0, .ref o0, .int xu])), (m0, .inr (4, [.ref m1, .int (nI ln)])), (m1, .inl (cJ, 20, .inr (.inl (mv))))] sz)) (va_Qi (fun (r : Int32) (_ : Unit) => r = nI ln) (st_E (dC, dI) vwCl [(cJ, .long), (cI, .int)] (va_A [(x0, .inr (8, [.ref k0, .ref h0, .ref c0, .ref t0, .ref m0, .ref d0, .ref s0, .ref o0, .int xu])), (m0, .inr (4, [.ref m1, .int (nI ln)])), (m1, .inl (cJ, 20, .inr (.inl (mv))))] sz) (fun _ => [(x0, .inr (8, [.ref k0, .ref h0, .ref c0, .ref t0, .ref m0, .ref d0, .ref s0, .ref o0, .int xu])), (m0, .inr (4, [.ref m1, .int (nI 0)])), (m1, .inl (cJ, 20, .inr (.inl (mv))))])) (va_A [(x0, .inr (8, [.ref k0, .ref h0, .ref c0, .ref t0, .ref m0, .ref d0, .ref s0, .ref o0, .int xu])), (m0, .inr (4, [.ref m1, .int (nI ln)])), (m1, .inl (cJ, 20, .inr (.inl (mv))))] sz)) 0 0 (va_A [(x0, .inr (8, [.ref k0, .ref h0, .ref c0, .ref t0, .ref m0, .ref d0, .ref s0, .ref o0, .int xu])), (m0, .inr (4, [.ref m1, .int (nI ln)])), (m1, .inl (cJ, 20, .inr (.inl (mv))))] sz) := by
  refine Met.ofW (cc := cX8_reset) (maxL := 2) (ret := (some .int)) (by decide) rfl ?_
  intro p e s m args below meth c s₁ B hml hv
  obtain ⟨rfl, hsz, hP, hK, hD0⟩ := hv
  have hx := B.exec
  have hb := B.bytes
  have hr := B.returns
  have hts := atoms_spec (ws := wsX8_reset) B.pre
  have hown : s.vm.findClass RX8 = some m.cls := findClass_of_methodNamed B.named
  have hlocks := B.notSynchronized
  subst hsz
  have hD := hD0.self (sz := s.heap.size)
  generalize hAe : va_A [(x0, .inr (8, [.ref k0, .ref h0, .ref c0, .ref t0, .ref m0, .ref d0, .ref s0, .ref o0, .int xu])), (m0, .inr (4, [.ref m1, .int (nI ln)])), (m1, .inl (cJ, 20, .inr (.inl (mv))))] s.heap.size = A at hD ⊢
  have hA : ∀ q : Nat, s.heap.size ≤ q → A q := fun q h => by rw [← hAe]; exact Or.inr h
  have hS : va_S A s.heap s.heap [] := va_S.rf
  have hP : va_P (dC, dI) vwCl [(x0, .inr (8, [.ref k0, .ref h0, .ref c0, .ref t0, .ref m0, .ref d0, .ref s0, .ref o0, .int xu])), (m0, .inr (4, [.ref m1, .int (nI ln)])), (m1, .inl (cJ, 20, .inr (.inl (mv))))] s.heap := hP
  have hl := lv_entry ([.ref x0]) (n := 2) (Nat.le_of_ble_eq_true rfl)
  rw [lg_entry_eq]
  generalize (lg_sl ([.ref x0]) ++ List.replicate (2 - (lg_sl ([.ref x0])).length) Slot.unset).toArray = ls at hl ⊢
  have iX8 : ∀ w ∈ wsX80, w ∈ wsX8_reset := by decide +kernel
  have iX4 : ∀ w ∈ wsX40, w ∈ wsX8_reset := by decide +kernel
  have f40 := hts (.fieldLink RX8 40 "LeafSigner" "message" "LLeafSigner$Message;") (by decide +kernel)
  have f141 := hts (.fieldLink RX8 141 "LeafSigner$Message" "size" "I") (by decide +kernel)
  have hl : lv_has ls 2 [(0, .ref x0)] := hl
  refine lv_aload_n hx hb dX8_reset_0 rfl (lv_at hl 0 rfl) ?_
  refine va_get (D := (dC, dI)) (ci := 8) (v := .ref m0) (C := RX8) (T := TX8) (N := 9) hx hb hts iX8 hown hK hP 0 rfl rfl 4 (by decide) f40 (fun _ h9 => h9) rfl dX8_reset_1 ?_
  refine va_get (D := (dC, dI)) (ci := 4) (v := .int (nI ln)) (C := RX4) (T := TX4) (N := 2) hx hb hts iX4 hown hK hP 1 rfl rfl 1 (by decide) f141 (fun _ h9 => h9) rfl dX8_reset_4 ?_
  refine lv_istore_n (lv' := [(1, .int (nI ln)), (0, .ref x0)]) hx hb dX8_reset_7 rfl hl (by decide) rfl (fun ls hl => ?_)
  refine lv_aload_n hx hb dX8_reset_8 rfl (lv_at hl 1 rfl) ?_
  refine va_get (D := (dC, dI)) (ci := 8) (v := .ref m0) (C := RX8) (T := TX8) (N := 9) hx hb hts iX8 hown hK hP 0 rfl rfl 4 (by decide) f40 (fun _ h9 => h9) rfl dX8_reset_9 ?_
  refine st_callv (va_runV (As := []) (rest := []) ⟨hx, hb, hml, hown, hts⟩ (c_Message_clear l dC dI cJ cI m0 m1 ln mv  s.heap.size) (cwV 0 hts gX8_reset_X4_clear rfl rfl rfl (by decide +kernel) ⟨Nat.le_of_ble_eq_true rfl, Nat.le_of_ble_eq_true rfl⟩) (st_preV hK hP hD [1, 2] rfl rfl (ci := 4) (q0 := 0) rfl rfl) rfl rfl hl.1 rfl (lv_room (Nat.le_of_ble_eq_true rfl)) dX8_reset_12 ⟨Nat.le_of_ble_eq_true rfl, Nat.le_of_ble_eq_true rfl⟩) hP hD hS hA [1, 2] [0] (wr := [(x0, .inr (8, [.ref k0, .ref h0, .ref c0, .ref t0, .ref m0, .ref d0, .ref s0, .ref o0, .int xu]))]) rfl rfl (by decide) (by decide) [0, 1, 2] (res := fun _ => [(x0, .inr (8, [.ref k0, .ref h0, .ref c0, .ref t0, .ref m0, .ref d0, .ref s0, .ref o0, .int xu])), (m0, .inr (4, [.ref m1, .int (nI 0)])), (m1, .inl (cJ, 20, .inr (.inl (mv))))]) (fun _ => rfl) (by decide) (fun  _ H locs hu hP hD hS => ?_)
  have hP : va_P (dC, dI) vwCl [(x0, .inr (8, [.ref k0, .ref h0, .ref c0, .ref t0, .ref m0, .ref d0, .ref s0, .ref o0, .int xu])), (m0, .inr (4, [.ref m1, .int (nI 0)])), (m1, .inl (cJ, 20, .inr (.inl (mv))))] H := hP
  have hD : va_D A [(x0, .inr (8, [.ref k0, .ref h0, .ref c0, .ref t0, .ref m0, .ref d0, .ref s0, .ref o0, .int xu])), (m0, .inr (4, [.ref m1, .int (nI 0)])), (m1, .inl (cJ, 20, .inr (.inl (mv))))] := hD
  refine lv_iload_n hx hb dX8_reset_15 rfl (lv_at hl 0 rfl) ?_
  exact W.iret (v := nI ln) hx hb hr (fun t ht hW => ⟨⟨nI ln, (), rfl, rfl, by rw [ht]; exact hP, va_K.moved hW.alike hK, hD⟩, hS.F ht⟩) hS.2.2 dX8_reset_16

set_option maxHeartbeats 4000000 in
set_option maxRecDepth 100000 in
theorem c_LeafSigner_leaf (l : Launch) (dC : Nat → ClassId) (dI : Nat → Nat → Nat) (cJ cI : ClassId) (x0 k0 h0 c0 t0 m0 d0 s0 o0 p0 : Nat) (xu xl xn : Int32) (sz : Nat) : Met l yX8_leaf wsX8_leaf ({ frames := 0, cells := 0, slots := 0, locals := 0 }) (va_Pc [.ref x0] (st_B (dC, dI) vwCl [(cJ, .long), (cI, .int)] [(x0, .inr (8, [.ref k0, .ref h0, .ref c0, .ref t0, .ref m0, .ref d0, .ref s0, .ref o0, .int xu])), (s0, .inr (6, [.ref p0, .int xl, .int xn]))] sz)) (va_Qi (fun (r : Int32) (_ : Unit) => r = xl) (st_E (dC, dI) vwCl [(cJ, .long), (cI, .int)] (va_A [(x0, .inr (8, [.ref k0, .ref h0, .ref c0, .ref t0, .ref m0, .ref d0, .ref s0, .ref o0, .int xu])), (s0, .inr (6, [.ref p0, .int xl, .int xn]))] sz) (fun _ => [(x0, .inr (8, [.ref k0, .ref h0, .ref c0, .ref t0, .ref m0, .ref d0, .ref s0, .ref o0, .int xu])), (s0, .inr (6, [.ref p0, .int xl, .int xn]))])) (va_A [(x0, .inr (8, [.ref k0, .ref h0, .ref c0, .ref t0, .ref m0, .ref d0, .ref s0, .ref o0, .int xu])), (s0, .inr (6, [.ref p0, .int xl, .int xn]))] sz)) 0 0 (va_A [(x0, .inr (8, [.ref k0, .ref h0, .ref c0, .ref t0, .ref m0, .ref d0, .ref s0, .ref o0, .int xu])), (s0, .inr (6, [.ref p0, .int xl, .int xn]))] sz) := by
  refine Met.ofW (cc := cX8_leaf) (maxL := 1) (ret := (some .int)) (by decide) rfl ?_
  intro p e s m args below meth c s₁ B hml hv
  obtain ⟨rfl, hsz, hP, hK, hD0⟩ := hv
  have hx := B.exec
  have hb := B.bytes
  have hr := B.returns
  have hts := atoms_spec (ws := wsX8_leaf) B.pre
  have hown : s.vm.findClass RX8 = some m.cls := findClass_of_methodNamed B.named
  have hlocks := B.notSynchronized
  subst hsz
  have hD := hD0.self (sz := s.heap.size)
  generalize hAe : va_A [(x0, .inr (8, [.ref k0, .ref h0, .ref c0, .ref t0, .ref m0, .ref d0, .ref s0, .ref o0, .int xu])), (s0, .inr (6, [.ref p0, .int xl, .int xn]))] s.heap.size = A at hD ⊢
  have hA : ∀ q : Nat, s.heap.size ≤ q → A q := fun q h => by rw [← hAe]; exact Or.inr h
  have hS : va_S A s.heap s.heap [] := va_S.rf
  have hP : va_P (dC, dI) vwCl [(x0, .inr (8, [.ref k0, .ref h0, .ref c0, .ref t0, .ref m0, .ref d0, .ref s0, .ref o0, .int xu])), (s0, .inr (6, [.ref p0, .int xl, .int xn]))] s.heap := hP
  have hl := lv_entry ([.ref x0]) (n := 1) (Nat.le_of_ble_eq_true rfl)
  rw [lg_entry_eq]
  generalize (lg_sl ([.ref x0]) ++ List.replicate (1 - (lg_sl ([.ref x0])).length) Slot.unset).toArray = ls at hl ⊢
  have iX8 : ∀ w ∈ wsX80, w ∈ wsX8_leaf := by decide +kernel
  have iX6 : ∀ w ∈ wsX60, w ∈ wsX8_leaf := by decide +kernel
  have f54 := hts (.fieldLink RX8 54 "LeafSigner" "signature" "LLeafSigner$Signature;") (by decide +kernel)
  have f176 := hts (.fieldLink RX8 176 "LeafSigner$Signature" "leaf" "I") (by decide +kernel)
  have hl : lv_has ls 1 [(0, .ref x0)] := hl
  refine lv_aload_n hx hb dX8_leaf_0 rfl (lv_at hl 0 rfl) ?_
  refine va_get (D := (dC, dI)) (ci := 8) (v := .ref s0) (C := RX8) (T := TX8) (N := 9) hx hb hts iX8 hown hK hP 0 rfl rfl 6 (by decide) f54 (fun _ h9 => h9) rfl dX8_leaf_1 ?_
  refine va_get (D := (dC, dI)) (ci := 6) (v := .int xl) (C := RX6) (T := TX6) (N := 3) hx hb hts iX6 hown hK hP 1 rfl rfl 1 (by decide) f176 (fun _ h9 => h9) rfl dX8_leaf_4 ?_
  exact W.iret (v := xl) hx hb hr (fun t ht hW => ⟨⟨xl, (), rfl, rfl, by rw [ht]; exact hP, va_K.moved hW.alike hK, hD⟩, hS.F ht⟩) hS.2.2 dX8_leaf_7

set_option maxHeartbeats 4000000 in
set_option maxRecDepth 100000 in
theorem c_LeafSigner_part (l : Launch) (dC : Nat → ClassId) (dI : Nat → Nat → Nat) (cJ cI : ClassId) (x0 k0 h0 c0 t0 m0 d0 s0 o0 p0 p1 : Nat) (xu xl xk xh : Int32) (sn : Nat) (PP : Nat → Int64 × Int64) (hs : sn ≤ 39) (sz : Nat) : Met l yX8_part wsX8_part ({ frames := 1, cells := 0, slots := 0, locals := 22 }) (va_Pc [.ref x0, .int xk, .int xh] (st_B (dC, dI) vwCl [(cJ, .long), (cI, .int)] [(x0, .inr (8, [.ref k0, .ref h0, .ref c0, .ref t0, .ref m0, .ref d0, .ref s0, .ref o0, .int xu])), (s0, .inr (6, [.ref p0, .int xl, .int (nI sn)])), (p0, .inr (5, [.ref p1])), (p1, .inl (cJ, 78, .inr (.inl (pr PP))))] sz)) (va_Ql (fun (r : Int64) (_ : Unit) => r = ptA PP sn xk xh) (st_E (dC, dI) vwCl [(cJ, .long), (cI, .int)] (va_A [(x0, .inr (8, [.ref k0, .ref h0, .ref c0, .ref t0, .ref m0, .ref d0, .ref s0, .ref o0, .int xu])), (s0, .inr (6, [.ref p0, .int xl, .int (nI sn)])), (p0, .inr (5, [.ref p1])), (p1, .inl (cJ, 78, .inr (.inl (pr PP))))] sz) (fun _ => [(x0, .inr (8, [.ref k0, .ref h0, .ref c0, .ref t0, .ref m0, .ref d0, .ref s0, .ref o0, .int xu])), (s0, .inr (6, [.ref p0, .int xl, .int (nI sn)])), (p0, .inr (5, [.ref p1])), (p1, .inl (cJ, 78, .inr (.inl (pr PP))))])) (va_A [(x0, .inr (8, [.ref k0, .ref h0, .ref c0, .ref t0, .ref m0, .ref d0, .ref s0, .ref o0, .int xu])), (s0, .inr (6, [.ref p0, .int xl, .int (nI sn)])), (p0, .inr (5, [.ref p1])), (p1, .inl (cJ, 78, .inr (.inl (pr PP))))] sz)) 0 0 (va_A [(x0, .inr (8, [.ref k0, .ref h0, .ref c0, .ref t0, .ref m0, .ref d0, .ref s0, .ref o0, .int xu])), (s0, .inr (6, [.ref p0, .int xl, .int (nI sn)])), (p0, .inr (5, [.ref p1])), (p1, .inl (cJ, 78, .inr (.inl (pr PP))))] sz) := by
  refine Met.ofW (cc := cX8_part) (maxL := 3) (ret := (some .long)) (by decide) rfl ?_
  intro p e s m args below meth c s₁ B hml hv
  obtain ⟨rfl, hsz, hP, hK, hD0⟩ := hv
  have hx := B.exec
  have hb := B.bytes
  have hr := B.returns
  have hts := atoms_spec (ws := wsX8_part) B.pre
  have hown : s.vm.findClass RX8 = some m.cls := findClass_of_methodNamed B.named
  have hlocks := B.notSynchronized
  subst hsz
  have hD := hD0.self (sz := s.heap.size)
  generalize hAe : va_A [(x0, .inr (8, [.ref k0, .ref h0, .ref c0, .ref t0, .ref m0, .ref d0, .ref s0, .ref o0, .int xu])), (s0, .inr (6, [.ref p0, .int xl, .int (nI sn)])), (p0, .inr (5, [.ref p1])), (p1, .inl (cJ, 78, .inr (.inl (pr PP))))] s.heap.size = A at hD ⊢
  have hA : ∀ q : Nat, s.heap.size ≤ q → A q := fun q h => by rw [← hAe]; exact Or.inr h
  have hS : va_S A s.heap s.heap [] := va_S.rf
  have hP : va_P (dC, dI) vwCl [(x0, .inr (8, [.ref k0, .ref h0, .ref c0, .ref t0, .ref m0, .ref d0, .ref s0, .ref o0, .int xu])), (s0, .inr (6, [.ref p0, .int xl, .int (nI sn)])), (p0, .inr (5, [.ref p1])), (p1, .inl (cJ, 78, .inr (.inl (pr PP))))] s.heap := hP
  have hl := lv_entry ([.ref x0, .int xk, .int xh]) (n := 3) (Nat.le_of_ble_eq_true rfl)
  rw [lg_entry_eq]
  generalize (lg_sl ([.ref x0, .int xk, .int xh]) ++ List.replicate (3 - (lg_sl ([.ref x0, .int xk, .int xh])).length) Slot.unset).toArray = ls at hl ⊢
  have iX8 : ∀ w ∈ wsX80, w ∈ wsX8_part := by decide +kernel
  have iX6 : ∀ w ∈ wsX60, w ∈ wsX8_part := by decide +kernel
  have f54 := hts (.fieldLink RX8 54 "LeafSigner" "signature" "LLeafSigner$Signature;") (by decide +kernel)
  have f162 := hts (.fieldLink RX8 162 "LeafSigner$Signature" "parts" "LLeafSigner$Pairs;") (by decide +kernel)
  have hl : lv_has ls 3 [(0, .ref x0), (1, .int xk), (2, .int xh)] := hl
  refine lv_iload_n hx hb dX8_part_0 rfl (lv_at hl 2 rfl) ?_
  refine st_calli (va_runS (As := [.int xh]) (rest := []) ⟨hx, hb, hml, hown, hts⟩ (c_LeafSigner_isHalf l dC dI cJ cI  xh  s.heap.size) (va_cwS 1 hts gX8_part_X8_isHalf rfl rfl rfl (by decide +kernel) ⟨Nat.le_of_ble_eq_true rfl, Nat.le_of_ble_eq_true rfl⟩) (st_preS hK hP hD [] rfl rfl) rfl rfl hl.1 rfl (lv_room (Nat.le_of_ble_eq_true rfl)) dX8_part_1 ⟨Nat.le_of_ble_eq_true rfl, Nat.le_of_ble_eq_true rfl⟩) hP hD hS hA [] [0, 1, 2, 3] (wr := [(x0, .inr (8, [.ref k0, .ref h0, .ref c0, .ref t0, .ref m0, .ref d0, .ref s0, .ref o0, .int xu])), (s0, .inr (6, [.ref p0, .int xl, .int (nI sn)])), (p0, .inr (5, [.ref p1])), (p1, .inl (cJ, 78, .inr (.inl (pr PP))))]) rfl rfl (by decide) (by decide) [0, 1, 2, 3] (res := fun _ => [(x0, .inr (8, [.ref k0, .ref h0, .ref c0, .ref t0, .ref m0, .ref d0, .ref s0, .ref o0, .int xu])), (s0, .inr (6, [.ref p0, .int xl, .int (nI sn)])), (p0, .inr (5, [.ref p1])), (p1, .inl (cJ, 78, .inr (.inl (pr PP))))]) (fun _ => rfl) (by decide) (fun r_1 _ H locs hu hP hD hS => ?_)
  have hP : va_P (dC, dI) vwCl [(x0, .inr (8, [.ref k0, .ref h0, .ref c0, .ref t0, .ref m0, .ref d0, .ref s0, .ref o0, .int xu])), (s0, .inr (6, [.ref p0, .int xl, .int (nI sn)])), (p0, .inr (5, [.ref p1])), (p1, .inl (cJ, 78, .inr (.inl (pr PP))))] H := hP
  have hD : va_D A [(x0, .inr (8, [.ref k0, .ref h0, .ref c0, .ref t0, .ref m0, .ref d0, .ref s0, .ref o0, .int xu])), (s0, .inr (6, [.ref p0, .int xl, .int (nI sn)])), (p0, .inr (5, [.ref p1])), (p1, .inl (cJ, 78, .inr (.inl (pr PP))))] := hD
  subst hu
  refine lv_if_eq (tgt := 18) hx hb dX8_part_4 (by decide) (fun c4 => ?_) (fun c4 => ?_)
  ·
    rw [q_b0] at c4
    refine lv_lconst (v := lN 0) hx hb dX8_part_18 (by decide) ?_
    exact W.lret (v := lN 0) hx hb hr (fun t ht hW => ⟨⟨lN 0, (), rfl, ptA_n (fun q => db_f c4 q.1), by rw [ht]; exact hP, va_K.moved hW.alike hK, hD⟩, hS.F ht⟩) hS.2.2 dX8_part_19
  ·
    rw [q_b0] at c4
    refine lv_aload_n hx hb dX8_part_7 rfl (lv_at hl 0 rfl) ?_
    refine va_get (D := (dC, dI)) (ci := 8) (v := .ref s0) (C := RX8) (T := TX8) (N := 9) hx hb hts iX8 hown hK hP 0 rfl rfl 6 (by decide) f54 (fun _ h9 => h9) rfl dX8_part_8 ?_
    refine lv_iload_n hx hb dX8_part_11 rfl (lv_at hl 1 rfl) ?_
    refine st_calli (va_runV (As := [.int xk]) (rest := []) ⟨hx, hb, hml, hown, hts⟩ (c_Signature_hasPart l dC dI cJ cI s0 p0 xl (nI sn) xk  H.size) (cwV 1 hts gX8_part_X6_hasPart rfl rfl rfl (by decide +kernel) ⟨Nat.le_of_ble_eq_true rfl, Nat.le_of_ble_eq_true rfl⟩) (st_preV hK hP hD [1] rfl rfl (ci := 6) (q0 := 0) rfl rfl) rfl rfl hl.1 rfl (lv_room (Nat.le_of_ble_eq_true rfl)) dX8_part_12 ⟨Nat.le_of_ble_eq_true rfl, Nat.le_of_ble_eq_true rfl⟩) hP hD hS hA [1] [0, 2, 3] (wr := [(x0, .inr (8, [.ref k0, .ref h0, .ref c0, .ref t0, .ref m0, .ref d0, .ref s0, .ref o0, .int xu])), (p0, .inr (5, [.ref p1])), (p1, .inl (cJ, 78, .inr (.inl (pr PP))))]) rfl rfl (by decide) (by decide) [0, 3, 1, 2] (res := fun _ => [(x0, .inr (8, [.ref k0, .ref h0, .ref c0, .ref t0, .ref m0, .ref d0, .ref s0, .ref o0, .int xu])), (s0, .inr (6, [.ref p0, .int xl, .int (nI sn)])), (p0, .inr (5, [.ref p1])), (p1, .inl (cJ, 78, .inr (.inl (pr PP))))]) (fun _ => rfl) (by decide) (fun r_2 _ H locs hu hP hD hS => ?_)
    have hP : va_P (dC, dI) vwCl [(x0, .inr (8, [.ref k0, .ref h0, .ref c0, .ref t0, .ref m0, .ref d0, .ref s0, .ref o0, .int xu])), (s0, .inr (6, [.ref p0, .int xl, .int (nI sn)])), (p0, .inr (5, [.ref p1])), (p1, .inl (cJ, 78, .inr (.inl (pr PP))))] H := hP
    have hD : va_D A [(x0, .inr (8, [.ref k0, .ref h0, .ref c0, .ref t0, .ref m0, .ref d0, .ref s0, .ref o0, .int xu])), (s0, .inr (6, [.ref p0, .int xl, .int (nI sn)])), (p0, .inr (5, [.ref p1])), (p1, .inl (cJ, 78, .inr (.inl (pr PP))))] := hD
    subst hu
    refine lv_if_ne (tgt := 20) hx hb dX8_part_15 (by decide) (fun c15 => ?_) (fun c15 => ?_)
    ·
      rw [q_b0] at c15
      obtain ⟨k, hk, rfl⟩ := i_le (by omega) (db_t c15).1 (db_t c15).2
      obtain ⟨hf, hf1, rfl⟩ := half_get (db_t c4)
      refine lv_aload_n hx hb dX8_part_20 rfl (lv_at hl 0 rfl) ?_
      refine va_get (D := (dC, dI)) (ci := 8) (v := .ref s0) (C := RX8) (T := TX8) (N := 9) hx hb hts iX8 hown hK hP 0 rfl rfl 6 (by decide) f54 (fun _ h9 => h9) rfl dX8_part_21 ?_
      refine va_get (D := (dC, dI)) (ci := 6) (v := .ref p0) (C := RX6) (T := TX6) (N := 3) hx hb hts iX6 hown hK hP 1 rfl rfl 0 (by decide) f162 (fun _ h9 => h9) rfl dX8_part_24 ?_
      refine lv_iload_n hx hb dX8_part_27 rfl (lv_at hl 1 rfl) ?_
      refine lv_iload_n hx hb dX8_part_28 rfl (lv_at hl 2 rfl) ?_
      refine st_calll (va_runV (As := [.int (nI k), .int (nI hf)]) (rest := []) ⟨hx, hb, hml, hown, hts⟩ (c_Pairs_at l dC dI cJ cI p0 p1 78 (pr PP) k hf (by omega) (by omega) H.size) (cwV 2 hts gX8_part_X5_at rfl rfl rfl (by decide +kernel) ⟨Nat.le_of_ble_eq_true rfl, Nat.le_of_ble_eq_true rfl⟩) (st_preV hK hP hD [2, 3] rfl rfl (ci := 5) (q0 := 0) rfl rfl) rfl rfl hl.1 rfl (lv_room (Nat.le_of_ble_eq_true rfl)) dX8_part_29 ⟨Nat.le_of_ble_eq_true rfl, Nat.le_of_ble_eq_true rfl⟩) hP hD hS hA [2, 3] [0, 1] (wr := [(x0, .inr (8, [.ref k0, .ref h0, .ref c0, .ref t0, .ref m0, .ref d0, .ref s0, .ref o0, .int xu])), (s0, .inr (6, [.ref p0, .int xl, .int (nI sn)]))]) rfl rfl (by decide) (by decide) [0, 1, 2, 3] (res := fun _ => [(x0, .inr (8, [.ref k0, .ref h0, .ref c0, .ref t0, .ref m0, .ref d0, .ref s0, .ref o0, .int xu])), (s0, .inr (6, [.ref p0, .int xl, .int (nI sn)])), (p0, .inr (5, [.ref p1])), (p1, .inl (cJ, 78, .inr (.inl (pr PP))))]) (fun _ => rfl) (by decide) (fun r_3 _ H locs hu hP hD hS => ?_)
      have hP : va_P (dC, dI) vwCl [(x0, .inr (8, [.ref k0, .ref h0, .ref c0, .ref t0, .ref m0, .ref d0, .ref s0, .ref o0, .int xu])), (s0, .inr (6, [.ref p0, .int xl, .int (nI sn)])), (p0, .inr (5, [.ref p1])), (p1, .inl (cJ, 78, .inr (.inl (pr PP))))] H := hP
      have hD : va_D A [(x0, .inr (8, [.ref k0, .ref h0, .ref c0, .ref t0, .ref m0, .ref d0, .ref s0, .ref o0, .int xu])), (s0, .inr (6, [.ref p0, .int xl, .int (nI sn)])), (p0, .inr (5, [.ref p1])), (p1, .inl (cJ, 78, .inr (.inl (pr PP))))] := hD
      subst hu
      exact W.lret (v := (pr PP) (2 * k + hf)) hx hb hr (fun t ht hW => ⟨⟨(pr PP) (2 * k + hf), (), rfl, by rw [← ptA_y (by omega) hf1 hk, ← gp2_pr PP k]; exact hlf_at _ _ hf1, by rw [ht]; exact hP, va_K.moved hW.alike hK, hD⟩, hS.F ht⟩) hS.2.2 dX8_part_32
    ·
      rw [q_b0] at c15
      refine lv_lconst (v := lN 0) hx hb dX8_part_18 (by decide) ?_
      exact W.lret (v := lN 0) hx hb hr (fun t ht hW => ⟨⟨lN 0, (), rfl, ptA_n (fun q => db_f c15 q.2), by rw [ht]; exact hP, va_K.moved hW.alike hK, hD⟩, hS.F ht⟩) hS.2.2 dX8_part_19

set_option maxHeartbeats 4000000 in
set_option maxRecDepth 100000 in
theorem c_setLeaf_no (l : Launch) (dC : Nat → ClassId) (dI : Nat → Nat → Nat) (cJ cI : ClassId) (x0 k0 h0 c0 t0 m0 d0 s0 o0 p0 : Nat) (xu xl xn yl : Int32) (hbad : xl = -1 ∨ yl < 0) (sz : Nat) : Met l yX8_setLeaf wsX8_setLeaf ({ frames := 1, cells := 0, slots := 0, locals := 20 }) (va_Pc [.ref x0, .int yl] (st_B (dC, dI) vwCl [(cJ, .long), (cI, .int)] [(x0, .inr (8, [.ref k0, .ref h0, .ref c0, .ref t0, .ref m0, .ref d0, .ref s0, .ref o0, .int xu])), (s0, .inr (6, [.ref p0, .int xl, .int xn]))] sz)) (va_Qi (fun (r : Int32) (_ : Unit) => r = nI 0) (st_E (dC, dI) vwCl [(cJ, .long), (cI, .int)] (va_A [(x0, .inr (8, [.ref k0, .ref h0, .ref c0, .ref t0, .ref m0, .ref d0, .ref s0, .ref o0, .int xu])), (s0, .inr (6, [.ref p0, .int xl, .int xn]))] sz) (fun _ => [(x0, .inr (8, [.ref k0, .ref h0, .ref c0, .ref t0, .ref m0, .ref d0, .ref s0, .ref o0, .int xu])), (s0, .inr (6, [.ref p0, .int xl, .int xn]))])) (va_A [(x0, .inr (8, [.ref k0, .ref h0, .ref c0, .ref t0, .ref m0, .ref d0, .ref s0, .ref o0, .int xu])), (s0, .inr (6, [.ref p0, .int xl, .int xn]))] sz)) 0 0 (va_A [(x0, .inr (8, [.ref k0, .ref h0, .ref c0, .ref t0, .ref m0, .ref d0, .ref s0, .ref o0, .int xu])), (s0, .inr (6, [.ref p0, .int xl, .int xn]))] sz) := by
  refine Met.ofW (cc := cX8_setLeaf) (maxL := 2) (ret := (some .int)) (by decide) rfl ?_
  intro p e s m args below meth c s₁ B hml hv
  obtain ⟨rfl, hsz, hP, hK, hD0⟩ := hv
  have hx := B.exec
  have hb := B.bytes
  have hr := B.returns
  have hts := atoms_spec (ws := wsX8_setLeaf) B.pre
  have hown : s.vm.findClass RX8 = some m.cls := findClass_of_methodNamed B.named
  have hlocks := B.notSynchronized
  subst hsz
  have hD := hD0.self (sz := s.heap.size)
  generalize hAe : va_A [(x0, .inr (8, [.ref k0, .ref h0, .ref c0, .ref t0, .ref m0, .ref d0, .ref s0, .ref o0, .int xu])), (s0, .inr (6, [.ref p0, .int xl, .int xn]))] s.heap.size = A at hD ⊢
  have hA : ∀ q : Nat, s.heap.size ≤ q → A q := fun q h => by rw [← hAe]; exact Or.inr h
  have hS : va_S A s.heap s.heap [] := va_S.rf
  have hP : va_P (dC, dI) vwCl [(x0, .inr (8, [.ref k0, .ref h0, .ref c0, .ref t0, .ref m0, .ref d0, .ref s0, .ref o0, .int xu])), (s0, .inr (6, [.ref p0, .int xl, .int xn]))] s.heap := hP
  have hl := lv_entry ([.ref x0, .int yl]) (n := 2) (Nat.le_of_ble_eq_true rfl)
  rw [lg_entry_eq]
  generalize (lg_sl ([.ref x0, .int yl]) ++ List.replicate (2 - (lg_sl ([.ref x0, .int yl])).length) Slot.unset).toArray = ls at hl ⊢
  have iX8 : ∀ w ∈ wsX80, w ∈ wsX8_setLeaf := by decide +kernel
  have f54 := hts (.fieldLink RX8 54 "LeafSigner" "signature" "LLeafSigner$Signature;") (by decide +kernel)
  have hl : lv_has ls 2 [(0, .ref x0), (1, .int yl)] := hl
  refine lv_aload_n hx hb dX8_setLeaf_0 rfl (lv_at hl 0 rfl) ?_
  refine va_get (D := (dC, dI)) (ci := 8) (v := .ref s0) (C := RX8) (T := TX8) (N := 9) hx hb hts iX8 hown hK hP 0 rfl rfl 6 (by decide) f54 (fun _ h9 => h9) rfl dX8_setLeaf_1 ?_
  refine st_calli (va_runV (As := []) (rest := []) ⟨hx, hb, hml, hown, hts⟩ (c_Signature_isThere l dC dI cJ cI s0 p0 xl xn  s.heap.size) (cwV 0 hts gX8_setLeaf_X6_isThere rfl rfl rfl (by decide +kernel) ⟨Nat.le_of_ble_eq_true rfl, Nat.le_of_ble_eq_true rfl⟩) (st_preV hK hP hD [1] rfl rfl (ci := 6) (q0 := 0) rfl rfl) rfl rfl hl.1 rfl (lv_room (Nat.le_of_ble_eq_true rfl)) dX8_setLeaf_4 ⟨Nat.le_of_ble_eq_true rfl, Nat.le_of_ble_eq_true rfl⟩) hP hD hS hA [1] [0] (wr := [(x0, .inr (8, [.ref k0, .ref h0, .ref c0, .ref t0, .ref m0, .ref d0, .ref s0, .ref o0, .int xu]))]) rfl rfl (by decide) (by decide) [0, 1] (res := fun _ => [(x0, .inr (8, [.ref k0, .ref h0, .ref c0, .ref t0, .ref m0, .ref d0, .ref s0, .ref o0, .int xu])), (s0, .inr (6, [.ref p0, .int xl, .int xn]))]) (fun _ => rfl) (by decide) (fun r_1 _ H locs hu hP hD hS => ?_)
  have hP : va_P (dC, dI) vwCl [(x0, .inr (8, [.ref k0, .ref h0, .ref c0, .ref t0, .ref m0, .ref d0, .ref s0, .ref o0, .int xu])), (s0, .inr (6, [.ref p0, .int xl, .int xn]))] H := hP
  have hD : va_D A [(x0, .inr (8, [.ref k0, .ref h0, .ref c0, .ref t0, .ref m0, .ref d0, .ref s0, .ref o0, .int xu])), (s0, .inr (6, [.ref p0, .int xl, .int xn]))] := hD
  subst hu
  refine lv_if_eq (tgt := 14) hx hb dX8_setLeaf_7 (by decide) (fun c7 => ?_) (fun c7 => ?_)
  ·
    rw [q_b0] at c7
    refine lv_iconst (v := nI 0) hx hb dX8_setLeaf_14 (by decide) ?_
    exact W.iret (v := nI 0) hx hb hr (fun t ht hW => ⟨⟨nI 0, (), rfl, rfl, by rw [ht]; exact hP, va_K.moved hW.alike hK, hD⟩, hS.F ht⟩) hS.2.2 dX8_setLeaf_15
  ·
    rw [q_b0] at c7
    refine lv_iload_n hx hb dX8_setLeaf_10 rfl (lv_at hl 1 rfl) ?_
    refine lv_if_ge (tgt := 16) hx hb dX8_setLeaf_11 (by decide) (fun c11 => ?_) (fun c11 => ?_)
    ·
      exact absurd c11 (fun q => hbad.elim (fun z => (show ¬ xl = -1 from db_t c7) z) (fun z => absurd q (Int32.not_le.mpr z)))
    ·
      refine lv_iconst (v := nI 0) hx hb dX8_setLeaf_14 (by decide) ?_
      exact W.iret (v := nI 0) hx hb hr (fun t ht hW => ⟨⟨nI 0, (), rfl, rfl, by rw [ht]; exact hP, va_K.moved hW.alike hK, hD⟩, hS.F ht⟩) hS.2.2 dX8_setLeaf_15

set_option maxHeartbeats 4000000 in
set_option maxRecDepth 100000 in
theorem c_setLeaf_ok (l : Launch) (dC : Nat → ClassId) (dI : Nat → Nat → Nat) (cJ cI : ClassId) (x0 k0 h0 c0 t0 m0 d0 s0 o0 p0 : Nat) (xu xl xn : Int32) (yl : Nat) (hok : ¬ xl = -1) (hy : yl < 2 ^ 31) (sz : Nat) : Met l yX8_setLeaf wsX8_setLeaf ({ frames := 1, cells := 0, slots := 0, locals := 20 }) (va_Pc [.ref x0, .int (nI yl)] (st_B (dC, dI) vwCl [(cJ, .long), (cI, .int)] [(x0, .inr (8, [.ref k0, .ref h0, .ref c0, .ref t0, .ref m0, .ref d0, .ref s0, .ref o0, .int xu])), (s0, .inr (6, [.ref p0, .int xl, .int xn]))] sz)) (va_Qi (fun (r : Int32) (_ : Unit) => r = nI 1) (st_E (dC, dI) vwCl [(cJ, .long), (cI, .int)] (va_A [(x0, .inr (8, [.ref k0, .ref h0, .ref c0, .ref t0, .ref m0, .ref d0, .ref s0, .ref o0, .int xu])), (s0, .inr (6, [.ref p0, .int xl, .int xn]))] sz) (fun _ => [(x0, .inr (8, [.ref k0, .ref h0, .ref c0, .ref t0, .ref m0, .ref d0, .ref s0, .ref o0, .int xu])), (s0, .inr (6, [.ref p0, .int (nI yl), .int xn]))])) (va_A [(x0, .inr (8, [.ref k0, .ref h0, .ref c0, .ref t0, .ref m0, .ref d0, .ref s0, .ref o0, .int xu])), (s0, .inr (6, [.ref p0, .int xl, .int xn]))] sz)) 0 0 (va_A [(x0, .inr (8, [.ref k0, .ref h0, .ref c0, .ref t0, .ref m0, .ref d0, .ref s0, .ref o0, .int xu])), (s0, .inr (6, [.ref p0, .int xl, .int xn]))] sz) := by
  refine Met.ofW (cc := cX8_setLeaf) (maxL := 2) (ret := (some .int)) (by decide) rfl ?_
  intro p e s m args below meth c s₁ B hml hv
  obtain ⟨rfl, hsz, hP, hK, hD0⟩ := hv
  have hx := B.exec
  have hb := B.bytes
  have hr := B.returns
  have hts := atoms_spec (ws := wsX8_setLeaf) B.pre
  have hown : s.vm.findClass RX8 = some m.cls := findClass_of_methodNamed B.named
  have hlocks := B.notSynchronized
  subst hsz
  have hD := hD0.self (sz := s.heap.size)
  generalize hAe : va_A [(x0, .inr (8, [.ref k0, .ref h0, .ref c0, .ref t0, .ref m0, .ref d0, .ref s0, .ref o0, .int xu])), (s0, .inr (6, [.ref p0, .int xl, .int xn]))] s.heap.size = A at hD ⊢
  have hA : ∀ q : Nat, s.heap.size ≤ q → A q := fun q h => by rw [← hAe]; exact Or.inr h
  have hS : va_S A s.heap s.heap [] := va_S.rf
  have hP : va_P (dC, dI) vwCl [(x0, .inr (8, [.ref k0, .ref h0, .ref c0, .ref t0, .ref m0, .ref d0, .ref s0, .ref o0, .int xu])), (s0, .inr (6, [.ref p0, .int xl, .int xn]))] s.heap := hP
  have hl := lv_entry ([.ref x0, .int (nI yl)]) (n := 2) (Nat.le_of_ble_eq_true rfl)
  rw [lg_entry_eq]
  generalize (lg_sl ([.ref x0, .int (nI yl)]) ++ List.replicate (2 - (lg_sl ([.ref x0, .int (nI yl)])).length) Slot.unset).toArray = ls at hl ⊢
  have iX8 : ∀ w ∈ wsX80, w ∈ wsX8_setLeaf := by decide +kernel
  have iX6 : ∀ w ∈ wsX60, w ∈ wsX8_setLeaf := by decide +kernel
  have f54 := hts (.fieldLink RX8 54 "LeafSigner" "signature" "LLeafSigner$Signature;") (by decide +kernel)
  have f176 := hts (.fieldLink RX8 176 "LeafSigner$Signature" "leaf" "I") (by decide +kernel)
  have hl : lv_has ls 2 [(0, .ref x0), (1, .int (nI yl))] := hl
  refine lv_aload_n hx hb dX8_setLeaf_0 rfl (lv_at hl 0 rfl) ?_
  refine va_get (D := (dC, dI)) (ci := 8) (v := .ref s0) (C := RX8) (T := TX8) (N := 9) hx hb hts iX8 hown hK hP 0 rfl rfl 6 (by decide) f54 (fun _ h9 => h9) rfl dX8_setLeaf_1 ?_
  refine st_calli (va_runV (As := []) (rest := []) ⟨hx, hb, hml, hown, hts⟩ (c_Signature_isThere l dC dI cJ cI s0 p0 xl xn  s.heap.size) (cwV 0 hts gX8_setLeaf_X6_isThere rfl rfl rfl (by decide +kernel) ⟨Nat.le_of_ble_eq_true rfl, Nat.le_of_ble_eq_true rfl⟩) (st_preV hK hP hD [1] rfl rfl (ci := 6) (q0 := 0) rfl rfl) rfl rfl hl.1 rfl (lv_room (Nat.le_of_ble_eq_true rfl)) dX8_setLeaf_4 ⟨Nat.le_of_ble_eq_true rfl, Nat.le_of_ble_eq_true rfl⟩) hP hD hS hA [1] [0] (wr := [(x0, .inr (8, [.ref k0, .ref h0, .ref c0, .ref t0, .ref m0, .ref d0, .ref s0, .ref o0, .int xu]))]) rfl rfl (by decide) (by decide) [0, 1] (res := fun _ => [(x0, .inr (8, [.ref k0, .ref h0, .ref c0, .ref t0, .ref m0, .ref d0, .ref s0, .ref o0, .int xu])), (s0, .inr (6, [.ref p0, .int xl, .int xn]))]) (fun _ => rfl) (by decide) (fun r_1 _ H locs hu hP hD hS => ?_)
  have hP : va_P (dC, dI) vwCl [(x0, .inr (8, [.ref k0, .ref h0, .ref c0, .ref t0, .ref m0, .ref d0, .ref s0, .ref o0, .int xu])), (s0, .inr (6, [.ref p0, .int xl, .int xn]))] H := hP
  have hD : va_D A [(x0, .inr (8, [.ref k0, .ref h0, .ref c0, .ref t0, .ref m0, .ref d0, .ref s0, .ref o0, .int xu])), (s0, .inr (6, [.ref p0, .int xl, .int xn]))] := hD
  subst hu
  refine lv_if_eq (tgt := 14) hx hb dX8_setLeaf_7 (by decide) (fun c7 => ?_) (fun c7 => ?_)
  ·
    rw [q_b0] at c7
    exact absurd hok (db_f c7)
  ·
    rw [q_b0] at c7
    refine lv_iload_n hx hb dX8_setLeaf_10 rfl (lv_at hl 1 rfl) ?_
    refine lv_if_ge (tgt := 16) hx hb dX8_setLeaf_11 (by decide) (fun c11 => ?_) (fun c11 => ?_)
    ·
      rw [q_ge0 (by omega)] at c11
      refine lv_aload_n hx hb dX8_setLeaf_16 rfl (lv_at hl 0 rfl) ?_
      refine va_get (D := (dC, dI)) (ci := 8) (v := .ref s0) (C := RX8) (T := TX8) (N := 9) hx hb hts iX8 hown hK hP 0 rfl rfl 6 (by decide) f54 (fun _ h9 => h9) rfl dX8_setLeaf_17 ?_
      refine lv_iload_n hx hb dX8_setLeaf_20 rfl (lv_at hl 1 rfl) ?_
      refine va_put (D := (dC, dI)) (ci := 6) (v := .int (nI yl)) (ty := .int) (C := RX6) (T := TX6) (N := 3) hx hb hts iX6 tyX6 tyX6_ok nmX6 hown hK hP hD hS 1 rfl rfl 1 (by decide) f176 (fun _ h9 => h9) rfl (by decide +kernel) rfl rfl (Nat.le_of_ble_eq_true rfl) dX8_setLeaf_21 (fun H locs hP hD hS => ?_)
      have hP : va_P (dC, dI) vwCl [(x0, .inr (8, [.ref k0, .ref h0, .ref c0, .ref t0, .ref m0, .ref d0, .ref s0, .ref o0, .int xu])), (s0, .inr (6, [.ref p0, .int (nI yl), .int xn]))] H := hP
      have hD : va_D A [(x0, .inr (8, [.ref k0, .ref h0, .ref c0, .ref t0, .ref m0, .ref d0, .ref s0, .ref o0, .int xu])), (s0, .inr (6, [.ref p0, .int (nI yl), .int xn]))] := hD
      refine lv_iconst (v := nI 1) hx hb dX8_setLeaf_24 (by decide) ?_
      exact W.iret (v := nI 1) hx hb hr (fun t ht hW => ⟨⟨nI 1, (), rfl, rfl, by rw [ht]; exact hP, va_K.moved hW.alike hK, hD⟩, hS.F ht⟩) hS.2.2 dX8_setLeaf_25
    ·
      rw [q_ge0 (by omega)] at c11
      exact absurd c11 (by omega)

set_option maxHeartbeats 4000000 in
set_option maxRecDepth 100000 in
theorem c_setPart_no (l : Launch) (dC : Nat → ClassId) (dI : Nat → Nat → Nat) (cJ cI : ClassId) (x0 k0 h0 c0 t0 m0 d0 s0 o0 p0 p1 : Nat) (xu xl xk xh xn : Int32) (xv : Int64) (hbad : ¬ ((xh = 0 ∨ xh = nI 1) ∧ (¬ xk < 0 ∧ ¬ xn ≤ xk))) (sz : Nat) : Met l yX8_setPart wsX8_setPart ({ frames := 1, cells := 0, slots := 0, locals := 21 }) (va_Pc [.ref x0, .int xk, .int xh, .long xv] (st_B (dC, dI) vwCl [(cJ, .long), (cI, .int)] [(x0, .inr (8, [.ref k0, .ref h0, .ref c0, .ref t0, .ref m0, .ref d0, .ref s0, .ref o0, .int xu])), (s0, .inr (6, [.ref p0, .int xl, .int xn]))] sz)) (va_Qi (fun (r : Int32) (_ : Unit) => r = nI 0) (st_E (dC, dI) vwCl [(cJ, .long), (cI, .int)] (va_A [(x0, .inr (8, [.ref k0, .ref h0, .ref c0, .ref t0, .ref m0, .ref d0, .ref s0, .ref o0, .int xu])), (s0, .inr (6, [.ref p0, .int xl, .int xn]))] sz) (fun _ => [(x0, .inr (8, [.ref k0, .ref h0, .ref c0, .ref t0, .ref m0, .ref d0, .ref s0, .ref o0, .int xu])), (s0, .inr (6, [.ref p0, .int xl, .int xn]))])) (va_A [(x0, .inr (8, [.ref k0, .ref h0, .ref c0, .ref t0, .ref m0, .ref d0, .ref s0, .ref o0, .int xu])), (s0, .inr (6, [.ref p0, .int xl, .int xn]))] sz)) 0 0 (va_A [(x0, .inr (8, [.ref k0, .ref h0, .ref c0, .ref t0, .ref m0, .ref d0, .ref s0, .ref o0, .int xu])), (s0, .inr (6, [.ref p0, .int xl, .int xn]))] sz) := by
  refine Met.ofW (cc := cX8_setPart) (maxL := 5) (ret := (some .int)) (by decide) rfl ?_
  intro p e s m args below meth c s₁ B hml hv
  obtain ⟨rfl, hsz, hP, hK, hD0⟩ := hv
  have hx := B.exec
  have hb := B.bytes
  have hr := B.returns
  have hts := atoms_spec (ws := wsX8_setPart) B.pre
  have hown : s.vm.findClass RX8 = some m.cls := findClass_of_methodNamed B.named
  have hlocks := B.notSynchronized
  subst hsz
  have hD := hD0.self (sz := s.heap.size)
  generalize hAe : va_A [(x0, .inr (8, [.ref k0, .ref h0, .ref c0, .ref t0, .ref m0, .ref d0, .ref s0, .ref o0, .int xu])), (s0, .inr (6, [.ref p0, .int xl, .int xn]))] s.heap.size = A at hD ⊢
  have hA : ∀ q : Nat, s.heap.size ≤ q → A q := fun q h => by rw [← hAe]; exact Or.inr h
  have hS : va_S A s.heap s.heap [] := va_S.rf
  have hP : va_P (dC, dI) vwCl [(x0, .inr (8, [.ref k0, .ref h0, .ref c0, .ref t0, .ref m0, .ref d0, .ref s0, .ref o0, .int xu])), (s0, .inr (6, [.ref p0, .int xl, .int xn]))] s.heap := hP
  have hl := lv_entry ([.ref x0, .int xk, .int xh, .long xv]) (n := 5) (Nat.le_of_ble_eq_true rfl)
  rw [lg_entry_eq]
  generalize (lg_sl ([.ref x0, .int xk, .int xh, .long xv]) ++ List.replicate (5 - (lg_sl ([.ref x0, .int xk, .int xh, .long xv])).length) Slot.unset).toArray = ls at hl ⊢
  have iX8 : ∀ w ∈ wsX80, w ∈ wsX8_setPart := by decide +kernel
  have f54 := hts (.fieldLink RX8 54 "LeafSigner" "signature" "LLeafSigner$Signature;") (by decide +kernel)
  have hl : lv_has ls 5 [(0, .ref x0), (1, .int xk), (2, .int xh), (3, .long xv)] := hl
  refine lv_iload_n hx hb dX8_setPart_0 rfl (lv_at hl 2 rfl) ?_
  refine st_calli (va_runS (As := [.int xh]) (rest := []) ⟨hx, hb, hml, hown, hts⟩ (c_LeafSigner_isHalf l dC dI cJ cI  xh  s.heap.size) (va_cwS 1 hts gX8_setPart_X8_isHalf rfl rfl rfl (by decide +kernel) ⟨Nat.le_of_ble_eq_true rfl, Nat.le_of_ble_eq_true rfl⟩) (st_preS hK hP hD [] rfl rfl) rfl rfl hl.1 rfl (lv_room (Nat.le_of_ble_eq_true rfl)) dX8_setPart_1 ⟨Nat.le_of_ble_eq_true rfl, Nat.le_of_ble_eq_true rfl⟩) hP hD hS hA [] [0, 1] (wr := [(x0, .inr (8, [.ref k0, .ref h0, .ref c0, .ref t0, .ref m0, .ref d0, .ref s0, .ref o0, .int xu])), (s0, .inr (6, [.ref p0, .int xl, .int xn]))]) rfl rfl (by decide) (by decide) [0, 1] (res := fun _ => [(x0, .inr (8, [.ref k0, .ref h0, .ref c0, .ref t0, .ref m0, .ref d0, .ref s0, .ref o0, .int xu])), (s0, .inr (6, [.ref p0, .int xl, .int xn]))]) (fun _ => rfl) (by decide) (fun r_1 _ H locs hu hP hD hS => ?_)
  have hP : va_P (dC, dI) vwCl [(x0, .inr (8, [.ref k0, .ref h0, .ref c0, .ref t0, .ref m0, .ref d0, .ref s0, .ref o0, .int xu])), (s0, .inr (6, [.ref p0, .int xl, .int xn]))] H := hP
  have hD : va_D A [(x0, .inr (8, [.ref k0, .ref h0, .ref c0, .ref t0, .ref m0, .ref d0, .ref s0, .ref o0, .int xu])), (s0, .inr (6, [.ref p0, .int xl, .int xn]))] := hD
  subst hu
  refine lv_if_eq (tgt := 18) hx hb dX8_setPart_4 (by decide) (fun c4 => ?_) (fun c4 => ?_)
  ·
    rw [q_b0] at c4
    refine lv_iconst (v := nI 0) hx hb dX8_setPart_18 (by decide) ?_
    exact W.iret (v := nI 0) hx hb hr (fun t ht hW => ⟨⟨nI 0, (), rfl, rfl, by rw [ht]; exact hP, va_K.moved hW.alike hK, hD⟩, hS.F ht⟩) hS.2.2 dX8_setPart_19
  ·
    rw [q_b0] at c4
    refine lv_aload_n hx hb dX8_setPart_7 rfl (lv_at hl 0 rfl) ?_
    refine va_get (D := (dC, dI)) (ci := 8) (v := .ref s0) (C := RX8) (T := TX8) (N := 9) hx hb hts iX8 hown hK hP 0 rfl rfl 6 (by decide) f54 (fun _ h9 => h9) rfl dX8_setPart_8 ?_
    refine lv_iload_n hx hb dX8_setPart_11 rfl (lv_at hl 1 rfl) ?_
    refine st_calli (va_runV (As := [.int xk]) (rest := []) ⟨hx, hb, hml, hown, hts⟩ (c_Signature_hasPart l dC dI cJ cI s0 p0 xl xn xk  H.size) (cwV 1 hts gX8_setPart_X6_hasPart rfl rfl rfl (by decide +kernel) ⟨Nat.le_of_ble_eq_true rfl, Nat.le_of_ble_eq_true rfl⟩) (st_preV hK hP hD [1] rfl rfl (ci := 6) (q0 := 0) rfl rfl) rfl rfl hl.1 rfl (lv_room (Nat.le_of_ble_eq_true rfl)) dX8_setPart_12 ⟨Nat.le_of_ble_eq_true rfl, Nat.le_of_ble_eq_true rfl⟩) hP hD hS hA [1] [0] (wr := [(x0, .inr (8, [.ref k0, .ref h0, .ref c0, .ref t0, .ref m0, .ref d0, .ref s0, .ref o0, .int xu]))]) rfl rfl (by decide) (by decide) [0, 1] (res := fun _ => [(x0, .inr (8, [.ref k0, .ref h0, .ref c0, .ref t0, .ref m0, .ref d0, .ref s0, .ref o0, .int xu])), (s0, .inr (6, [.ref p0, .int xl, .int xn]))]) (fun _ => rfl) (by decide) (fun r_2 _ H locs hu hP hD hS => ?_)
    have hP : va_P (dC, dI) vwCl [(x0, .inr (8, [.ref k0, .ref h0, .ref c0, .ref t0, .ref m0, .ref d0, .ref s0, .ref o0, .int xu])), (s0, .inr (6, [.ref p0, .int xl, .int xn]))] H := hP
    have hD : va_D A [(x0, .inr (8, [.ref k0, .ref h0, .ref c0, .ref t0, .ref m0, .ref d0, .ref s0, .ref o0, .int xu])), (s0, .inr (6, [.ref p0, .int xl, .int xn]))] := hD
    subst hu
    refine lv_if_ne (tgt := 20) hx hb dX8_setPart_15 (by decide) (fun c15 => ?_) (fun c15 => ?_)
    ·
      rw [q_b0] at c15
      exact absurd ⟨db_t c4, db_t c15⟩ hbad
    ·
      rw [q_b0] at c15
      refine lv_iconst (v := nI 0) hx hb dX8_setPart_18 (by decide) ?_
      exact W.iret (v := nI 0) hx hb hr (fun t ht hW => ⟨⟨nI 0, (), rfl, rfl, by rw [ht]; exact hP, va_K.moved hW.alike hK, hD⟩, hS.F ht⟩) hS.2.2 dX8_setPart_19

set_option maxHeartbeats 4000000 in
set_option maxRecDepth 100000 in
theorem c_setPart_ok (l : Launch) (dC : Nat → ClassId) (dI : Nat → Nat → Nat) (cJ cI : ClassId) (x0 k0 h0 c0 t0 m0 d0 s0 o0 p0 p1 : Nat) (xu xl : Int32) (xv : Int64) (k hf sn : Nat) (PP : Nat → Int64 × Int64) (hs : sn ≤ 39) (hf1 : hf ≤ 1) (hk : k < sn) (sz : Nat) : Met l yX8_setPart wsX8_setPart ({ frames := 1, cells := 0, slots := 0, locals := 24 }) (va_Pc [.ref x0, .int (nI k), .int (nI hf), .long xv] (st_B (dC, dI) vwCl [(cJ, .long), (cI, .int)] [(x0, .inr (8, [.ref k0, .ref h0, .ref c0, .ref t0, .ref m0, .ref d0, .ref s0, .ref o0, .int xu])), (s0, .inr (6, [.ref p0, .int xl, .int (nI sn)])), (p0, .inr (5, [.ref p1])), (p1, .inl (cJ, 78, .inr (.inl (pr PP))))] sz)) (va_Qi (fun (r : Int32) (_ : Unit) => r = nI 1) (st_E (dC, dI) vwCl [(cJ, .long), (cI, .int)] (va_A [(x0, .inr (8, [.ref k0, .ref h0, .ref c0, .ref t0, .ref m0, .ref d0, .ref s0, .ref o0, .int xu])), (s0, .inr (6, [.ref p0, .int xl, .int (nI sn)])), (p0, .inr (5, [.ref p1])), (p1, .inl (cJ, 78, .inr (.inl (pr PP))))] sz) (fun _ => [(x0, .inr (8, [.ref k0, .ref h0, .ref c0, .ref t0, .ref m0, .ref d0, .ref s0, .ref o0, .int xu])), (s0, .inr (6, [.ref p0, .int xl, .int (nI sn)])), (p0, .inr (5, [.ref p1])), (p1, .inl (cJ, 78, .inr (.inl (pr (upP PP k hf xv)))))])) (va_A [(x0, .inr (8, [.ref k0, .ref h0, .ref c0, .ref t0, .ref m0, .ref d0, .ref s0, .ref o0, .int xu])), (s0, .inr (6, [.ref p0, .int xl, .int (nI sn)])), (p0, .inr (5, [.ref p1])), (p1, .inl (cJ, 78, .inr (.inl (pr PP))))] sz)) 0 0 (va_A [(x0, .inr (8, [.ref k0, .ref h0, .ref c0, .ref t0, .ref m0, .ref d0, .ref s0, .ref o0, .int xu])), (s0, .inr (6, [.ref p0, .int xl, .int (nI sn)])), (p0, .inr (5, [.ref p1])), (p1, .inl (cJ, 78, .inr (.inl (pr PP))))] sz) := by
  refine Met.ofW (cc := cX8_setPart) (maxL := 5) (ret := (some .int)) (by decide) rfl ?_
  intro p e s m args below meth c s₁ B hml hv
  obtain ⟨rfl, hsz, hP, hK, hD0⟩ := hv
  have hx := B.exec
  have hb := B.bytes
  have hr := B.returns
  have hts := atoms_spec (ws := wsX8_setPart) B.pre
  have hown : s.vm.findClass RX8 = some m.cls := findClass_of_methodNamed B.named
  have hlocks := B.notSynchronized
  subst hsz
  have hD := hD0.self (sz := s.heap.size)
  generalize hAe : va_A [(x0, .inr (8, [.ref k0, .ref h0, .ref c0, .ref t0, .ref m0, .ref d0, .ref s0, .ref o0, .int xu])), (s0, .inr (6, [.ref p0, .int xl, .int (nI sn)])), (p0, .inr (5, [.ref p1])), (p1, .inl (cJ, 78, .inr (.inl (pr PP))))] s.heap.size = A at hD ⊢
  have hA : ∀ q : Nat, s.heap.size ≤ q → A q := fun q h => by rw [← hAe]; exact Or.inr h
  have hS : va_S A s.heap s.heap [] := va_S.rf
  have hP : va_P (dC, dI) vwCl [(x0, .inr (8, [.ref k0, .ref h0, .ref c0, .ref t0, .ref m0, .ref d0, .ref s0, .ref o0, .int xu])), (s0, .inr (6, [.ref p0, .int xl, .int (nI sn)])), (p0, .inr (5, [.ref p1])), (p1, .inl (cJ, 78, .inr (.inl (pr PP))))] s.heap := hP
  have hl := lv_entry ([.ref x0, .int (nI k), .int (nI hf), .long xv]) (n := 5) (Nat.le_of_ble_eq_true rfl)
  rw [lg_entry_eq]
  generalize (lg_sl ([.ref x0, .int (nI k), .int (nI hf), .long xv]) ++ List.replicate (5 - (lg_sl ([.ref x0, .int (nI k), .int (nI hf), .long xv])).length) Slot.unset).toArray = ls at hl ⊢
  have iX8 : ∀ w ∈ wsX80, w ∈ wsX8_setPart := by decide +kernel
  have iX6 : ∀ w ∈ wsX60, w ∈ wsX8_setPart := by decide +kernel
  have f54 := hts (.fieldLink RX8 54 "LeafSigner" "signature" "LLeafSigner$Signature;") (by decide +kernel)
  have f162 := hts (.fieldLink RX8 162 "LeafSigner$Signature" "parts" "LLeafSigner$Pairs;") (by decide +kernel)
  have hl : lv_has ls 5 [(0, .ref x0), (1, .int (nI k)), (2, .int (nI hf)), (3, .long xv)] := hl
  refine lv_iload_n hx hb dX8_setPart_0 rfl (lv_at hl 2 rfl) ?_
  refine st_calli (va_runS (As := [.int (nI hf)]) (rest := []) ⟨hx, hb, hml, hown, hts⟩ (c_LeafSigner_isHalf l dC dI cJ cI  (nI hf)  s.heap.size) (va_cwS 1 hts gX8_setPart_X8_isHalf rfl rfl rfl (by decide +kernel) ⟨Nat.le_of_ble_eq_true rfl, Nat.le_of_ble_eq_true rfl⟩) (st_preS hK hP hD [] rfl rfl) rfl rfl hl.1 rfl (lv_room (Nat.le_of_ble_eq_true rfl)) dX8_setPart_1 ⟨Nat.le_of_ble_eq_true rfl, Nat.le_of_ble_eq_true rfl⟩) hP hD hS hA [] [0, 1, 2, 3] (wr := [(x0, .inr (8, [.ref k0, .ref h0, .ref c0, .ref t0, .ref m0, .ref d0, .ref s0, .ref o0, .int xu])), (s0, .inr (6, [.ref p0, .int xl, .int (nI sn)])), (p0, .inr (5, [.ref p1])), (p1, .inl (cJ, 78, .inr (.inl (pr PP))))]) rfl rfl (by decide) (by decide) [0, 1, 2, 3] (res := fun _ => [(x0, .inr (8, [.ref k0, .ref h0, .ref c0, .ref t0, .ref m0, .ref d0, .ref s0, .ref o0, .int xu])), (s0, .inr (6, [.ref p0, .int xl, .int (nI sn)])), (p0, .inr (5, [.ref p1])), (p1, .inl (cJ, 78, .inr (.inl (pr PP))))]) (fun _ => rfl) (by decide) (fun r_1 _ H locs hu hP hD hS => ?_)
  have hP : va_P (dC, dI) vwCl [(x0, .inr (8, [.ref k0, .ref h0, .ref c0, .ref t0, .ref m0, .ref d0, .ref s0, .ref o0, .int xu])), (s0, .inr (6, [.ref p0, .int xl, .int (nI sn)])), (p0, .inr (5, [.ref p1])), (p1, .inl (cJ, 78, .inr (.inl (pr PP))))] H := hP
  have hD : va_D A [(x0, .inr (8, [.ref k0, .ref h0, .ref c0, .ref t0, .ref m0, .ref d0, .ref s0, .ref o0, .int xu])), (s0, .inr (6, [.ref p0, .int xl, .int (nI sn)])), (p0, .inr (5, [.ref p1])), (p1, .inl (cJ, 78, .inr (.inl (pr PP))))] := hD
  subst hu
  refine lv_if_eq (tgt := 18) hx hb dX8_setPart_4 (by decide) (fun c4 => ?_) (fun c4 => ?_)
  ·
    rw [q_b0] at c4
    exact absurd (half_of hf1) (db_f c4)
  ·
    rw [q_b0] at c4
    refine lv_aload_n hx hb dX8_setPart_7 rfl (lv_at hl 0 rfl) ?_
    refine va_get (D := (dC, dI)) (ci := 8) (v := .ref s0) (C := RX8) (T := TX8) (N := 9) hx hb hts iX8 hown hK hP 0 rfl rfl 6 (by decide) f54 (fun _ h9 => h9) rfl dX8_setPart_8 ?_
    refine lv_iload_n hx hb dX8_setPart_11 rfl (lv_at hl 1 rfl) ?_
    refine st_calli (va_runV (As := [.int (nI k)]) (rest := []) ⟨hx, hb, hml, hown, hts⟩ (c_Signature_hasPart l dC dI cJ cI s0 p0 xl (nI sn) (nI k)  H.size) (cwV 1 hts gX8_setPart_X6_hasPart rfl rfl rfl (by decide +kernel) ⟨Nat.le_of_ble_eq_true rfl, Nat.le_of_ble_eq_true rfl⟩) (st_preV hK hP hD [1] rfl rfl (ci := 6) (q0 := 0) rfl rfl) rfl rfl hl.1 rfl (lv_room (Nat.le_of_ble_eq_true rfl)) dX8_setPart_12 ⟨Nat.le_of_ble_eq_true rfl, Nat.le_of_ble_eq_true rfl⟩) hP hD hS hA [1] [0, 2, 3] (wr := [(x0, .inr (8, [.ref k0, .ref h0, .ref c0, .ref t0, .ref m0, .ref d0, .ref s0, .ref o0, .int xu])), (p0, .inr (5, [.ref p1])), (p1, .inl (cJ, 78, .inr (.inl (pr PP))))]) rfl rfl (by decide) (by decide) [0, 3, 1, 2] (res := fun _ => [(x0, .inr (8, [.ref k0, .ref h0, .ref c0, .ref t0, .ref m0, .ref d0, .ref s0, .ref o0, .int xu])), (s0, .inr (6, [.ref p0, .int xl, .int (nI sn)])), (p0, .inr (5, [.ref p1])), (p1, .inl (cJ, 78, .inr (.inl (pr PP))))]) (fun _ => rfl) (by decide) (fun r_2 _ H locs hu hP hD hS => ?_)
    have hP : va_P (dC, dI) vwCl [(x0, .inr (8, [.ref k0, .ref h0, .ref c0, .ref t0, .ref m0, .ref d0, .ref s0, .ref o0, .int xu])), (s0, .inr (6, [.ref p0, .int xl, .int (nI sn)])), (p0, .inr (5, [.ref p1])), (p1, .inl (cJ, 78, .inr (.inl (pr PP))))] H := hP
    have hD : va_D A [(x0, .inr (8, [.ref k0, .ref h0, .ref c0, .ref t0, .ref m0, .ref d0, .ref s0, .ref o0, .int xu])), (s0, .inr (6, [.ref p0, .int xl, .int (nI sn)])), (p0, .inr (5, [.ref p1])), (p1, .inl (cJ, 78, .inr (.inl (pr PP))))] := hD
    subst hu
    refine lv_if_ne (tgt := 20) hx hb dX8_setPart_15 (by decide) (fun c15 => ?_) (fun c15 => ?_)
    ·
      rw [q_b0] at c15
      refine lv_aload_n hx hb dX8_setPart_20 rfl (lv_at hl 0 rfl) ?_
      refine va_get (D := (dC, dI)) (ci := 8) (v := .ref s0) (C := RX8) (T := TX8) (N := 9) hx hb hts iX8 hown hK hP 0 rfl rfl 6 (by decide) f54 (fun _ h9 => h9) rfl dX8_setPart_21 ?_
      refine va_get (D := (dC, dI)) (ci := 6) (v := .ref p0) (C := RX6) (T := TX6) (N := 3) hx hb hts iX6 hown hK hP 1 rfl rfl 0 (by decide) f162 (fun _ h9 => h9) rfl dX8_setPart_24 ?_
      refine lv_iload_n hx hb dX8_setPart_27 rfl (lv_at hl 1 rfl) ?_
      refine lv_iload_n hx hb dX8_setPart_28 rfl (lv_at hl 2 rfl) ?_
      refine lv_lload_n hx hb dX8_setPart_29 rfl (lv_at hl 3 rfl) ?_
      refine st_callv (va_runV (As := [.int (nI k), .int (nI hf), .long xv]) (rest := []) ⟨hx, hb, hml, hown, hts⟩ (c_Pairs_put l dC dI cJ cI p0 p1 78 (pr PP) k hf xv (by omega) (by omega) H.size) (cwV 3 hts gX8_setPart_X5_put rfl rfl rfl (by decide +kernel) ⟨Nat.le_of_ble_eq_true rfl, Nat.le_of_ble_eq_true rfl⟩) (st_preV hK hP hD [2, 3] rfl rfl (ci := 5) (q0 := 0) rfl rfl) rfl rfl hl.1 rfl (lv_room (Nat.le_of_ble_eq_true rfl)) dX8_setPart_30 ⟨Nat.le_of_ble_eq_true rfl, Nat.le_of_ble_eq_true rfl⟩) hP hD hS hA [2, 3] [0, 1] (wr := [(x0, .inr (8, [.ref k0, .ref h0, .ref c0, .ref t0, .ref m0, .ref d0, .ref s0, .ref o0, .int xu])), (s0, .inr (6, [.ref p0, .int xl, .int (nI sn)]))]) rfl rfl (by decide) (by decide) [0, 1, 2, 3] (res := fun _ => [(x0, .inr (8, [.ref k0, .ref h0, .ref c0, .ref t0, .ref m0, .ref d0, .ref s0, .ref o0, .int xu])), (s0, .inr (6, [.ref p0, .int xl, .int (nI sn)])), (p0, .inr (5, [.ref p1])), (p1, .inl (cJ, 78, .inr (.inl (vp_updL (pr PP) (2 * k + hf) xv))))]) (fun _ => rfl) (by decide) (fun  _ H locs hu hP hD hS => ?_)
      have hP : va_P (dC, dI) vwCl [(x0, .inr (8, [.ref k0, .ref h0, .ref c0, .ref t0, .ref m0, .ref d0, .ref s0, .ref o0, .int xu])), (s0, .inr (6, [.ref p0, .int xl, .int (nI sn)])), (p0, .inr (5, [.ref p1])), (p1, .inl (cJ, 78, .inr (.inl (vp_updL (pr PP) (2 * k + hf) xv))))] H := hP
      have hD : va_D A [(x0, .inr (8, [.ref k0, .ref h0, .ref c0, .ref t0, .ref m0, .ref d0, .ref s0, .ref o0, .int xu])), (s0, .inr (6, [.ref p0, .int xl, .int (nI sn)])), (p0, .inr (5, [.ref p1])), (p1, .inl (cJ, 78, .inr (.inl (vp_updL (pr PP) (2 * k + hf) xv))))] := hD
      refine lv_iconst (v := nI 1) hx hb dX8_setPart_33 (by decide) ?_
      have eW_3 : ([(x0, .inr (8, [.ref k0, .ref h0, .ref c0, .ref t0, .ref m0, .ref d0, .ref s0, .ref o0, .int xu])), (s0, .inr (6, [.ref p0, .int xl, .int (nI sn)])), (p0, .inr (5, [.ref p1])), (p1, .inl (cJ, 78, .inr (.inl (vp_updL (pr PP) (2 * k + hf) xv))))] : va_W) = [(x0, .inr (8, [.ref k0, .ref h0, .ref c0, .ref t0, .ref m0, .ref d0, .ref s0, .ref o0, .int xu])), (s0, .inr (6, [.ref p0, .int xl, .int (nI sn)])), (p0, .inr (5, [.ref p1])), (p1, .inl (cJ, 78, .inr (.inl (pr (upP PP k hf xv)))))] := by rw [upP_pr _ _ hf1]
      have hP : va_P (dC, dI) vwCl [(x0, .inr (8, [.ref k0, .ref h0, .ref c0, .ref t0, .ref m0, .ref d0, .ref s0, .ref o0, .int xu])), (s0, .inr (6, [.ref p0, .int xl, .int (nI sn)])), (p0, .inr (5, [.ref p1])), (p1, .inl (cJ, 78, .inr (.inl (pr (upP PP k hf xv)))))] H := by rw [← eW_3]; exact hP
      have hD : va_D A [(x0, .inr (8, [.ref k0, .ref h0, .ref c0, .ref t0, .ref m0, .ref d0, .ref s0, .ref o0, .int xu])), (s0, .inr (6, [.ref p0, .int xl, .int (nI sn)])), (p0, .inr (5, [.ref p1])), (p1, .inl (cJ, 78, .inr (.inl (pr (upP PP k hf xv)))))] := by rw [← eW_3]; exact hD
      exact W.iret (v := nI 1) hx hb hr (fun t ht hW => ⟨⟨nI 1, (), rfl, rfl, by rw [ht]; exact hP, va_K.moved hW.alike hK, hD⟩, hS.F ht⟩) hS.2.2 dX8_setPart_34
    ·
      rw [q_b0] at c15
      exact absurd ⟨by rw [q_lt0 (by omega)]; omega, by rw [q_le (by omega) (by omega)]; omega⟩ (db_f c15)

set_option maxHeartbeats 4000000 in
set_option maxRecDepth 100000 in
theorem c_tell_no (l : Launch) (dC : Nat → ClassId) (dI : Nat → Nat → Nat) (cJ cI : ClassId) (x0 k0 h0 c0 t0 m0 d0 s0 o0 o1 : Nat) (xu xh : Int32) (xv : Int64) (hbad : ¬ (xh = 0 ∨ xh = nI 1)) (sz : Nat) : Met l yX8_tell wsX8_tell ({ frames := 1, cells := 0, slots := 0, locals := 20 }) (va_Pc [.ref x0, .int xh, .long xv] (st_B (dC, dI) vwCl [(cJ, .long), (cI, .int)] [(x0, .inr (8, [.ref k0, .ref h0, .ref c0, .ref t0, .ref m0, .ref d0, .ref s0, .ref o0, .int xu]))] sz)) (va_Qi (fun (r : Int32) (_ : Unit) => r = nI 0) (st_E (dC, dI) vwCl [(cJ, .long), (cI, .int)] (va_A [(x0, .inr (8, [.ref k0, .ref h0, .ref c0, .ref t0, .ref m0, .ref d0, .ref s0, .ref o0, .int xu]))] sz) (fun _ => [(x0, .inr (8, [.ref k0, .ref h0, .ref c0, .ref t0, .ref m0, .ref d0, .ref s0, .ref o0, .int xu]))])) (va_A [(x0, .inr (8, [.ref k0, .ref h0, .ref c0, .ref t0, .ref m0, .ref d0, .ref s0, .ref o0, .int xu]))] sz)) 0 0 (va_A [(x0, .inr (8, [.ref k0, .ref h0, .ref c0, .ref t0, .ref m0, .ref d0, .ref s0, .ref o0, .int xu]))] sz) := by
  refine Met.ofW (cc := cX8_tell) (maxL := 4) (ret := (some .int)) (by decide) rfl ?_
  intro p e s m args below meth c s₁ B hml hv
  obtain ⟨rfl, hsz, hP, hK, hD0⟩ := hv
  have hx := B.exec
  have hb := B.bytes
  have hr := B.returns
  have hts := atoms_spec (ws := wsX8_tell) B.pre
  have hown : s.vm.findClass RX8 = some m.cls := findClass_of_methodNamed B.named
  have hlocks := B.notSynchronized
  subst hsz
  have hD := hD0.self (sz := s.heap.size)
  generalize hAe : va_A [(x0, .inr (8, [.ref k0, .ref h0, .ref c0, .ref t0, .ref m0, .ref d0, .ref s0, .ref o0, .int xu]))] s.heap.size = A at hD ⊢
  have hA : ∀ q : Nat, s.heap.size ≤ q → A q := fun q h => by rw [← hAe]; exact Or.inr h
  have hS : va_S A s.heap s.heap [] := va_S.rf
  have hP : va_P (dC, dI) vwCl [(x0, .inr (8, [.ref k0, .ref h0, .ref c0, .ref t0, .ref m0, .ref d0, .ref s0, .ref o0, .int xu]))] s.heap := hP
  have hl := lv_entry ([.ref x0, .int xh, .long xv]) (n := 4) (Nat.le_of_ble_eq_true rfl)
  rw [lg_entry_eq]
  generalize (lg_sl ([.ref x0, .int xh, .long xv]) ++ List.replicate (4 - (lg_sl ([.ref x0, .int xh, .long xv])).length) Slot.unset).toArray = ls at hl ⊢
  have hl : lv_has ls 4 [(0, .ref x0), (1, .int xh), (2, .long xv)] := hl
  refine lv_iload_n hx hb dX8_tell_0 rfl (lv_at hl 1 rfl) ?_
  refine st_calli (va_runS (As := [.int xh]) (rest := []) ⟨hx, hb, hml, hown, hts⟩ (c_LeafSigner_isHalf l dC dI cJ cI  xh  s.heap.size) (va_cwS 1 hts gX8_tell_X8_isHalf rfl rfl rfl (by decide +kernel) ⟨Nat.le_of_ble_eq_true rfl, Nat.le_of_ble_eq_true rfl⟩) (st_preS hK hP hD [] rfl rfl) rfl rfl hl.1 rfl (lv_room (Nat.le_of_ble_eq_true rfl)) dX8_tell_1 ⟨Nat.le_of_ble_eq_true rfl, Nat.le_of_ble_eq_true rfl⟩) hP hD hS hA [] [0] (wr := [(x0, .inr (8, [.ref k0, .ref h0, .ref c0, .ref t0, .ref m0, .ref d0, .ref s0, .ref o0, .int xu]))]) rfl rfl (by decide) (by decide) [0] (res := fun _ => [(x0, .inr (8, [.ref k0, .ref h0, .ref c0, .ref t0, .ref m0, .ref d0, .ref s0, .ref o0, .int xu]))]) (fun _ => rfl) (by decide) (fun r_1 _ H locs hu hP hD hS => ?_)
  have hP : va_P (dC, dI) vwCl [(x0, .inr (8, [.ref k0, .ref h0, .ref c0, .ref t0, .ref m0, .ref d0, .ref s0, .ref o0, .int xu]))] H := hP
  have hD : va_D A [(x0, .inr (8, [.ref k0, .ref h0, .ref c0, .ref t0, .ref m0, .ref d0, .ref s0, .ref o0, .int xu]))] := hD
  subst hu
  refine lv_if_ne (tgt := 9) hx hb dX8_tell_4 (by decide) (fun c4 => ?_) (fun c4 => ?_)
  ·
    rw [q_b0] at c4
    exact absurd (db_t c4) hbad
  ·
    rw [q_b0] at c4
    refine lv_iconst (v := nI 0) hx hb dX8_tell_7 (by decide) ?_
    exact W.iret (v := nI 0) hx hb hr (fun t ht hW => ⟨⟨nI 0, (), rfl, rfl, by rw [ht]; exact hP, va_K.moved hW.alike hK, hD⟩, hS.F ht⟩) hS.2.2 dX8_tell_8

set_option maxHeartbeats 4000000 in
set_option maxRecDepth 100000 in
theorem c_tell_ok (l : Launch) (dC : Nat → ClassId) (dI : Nat → Nat → Nat) (cJ cI : ClassId) (x0 k0 h0 c0 t0 m0 d0 s0 o0 o1 : Nat) (xu : Int32) (xv : Int64) (hf : Nat) (tv : Nat → Int64) (hf1 : hf ≤ 1) (sz : Nat) : Met l yX8_tell wsX8_tell ({ frames := 1, cells := 0, slots := 0, locals := 24 }) (va_Pc [.ref x0, .int (nI hf), .long xv] (st_B (dC, dI) vwCl [(cJ, .long), (cI, .int)] [(x0, .inr (8, [.ref k0, .ref h0, .ref c0, .ref t0, .ref m0, .ref d0, .ref s0, .ref o0, .int xu])), (o0, .inr (5, [.ref o1])), (o1, .inl (cJ, 2, .inr (.inl (tv))))] sz)) (va_Qi (fun (r : Int32) (_ : Unit) => r = nI 1) (st_E (dC, dI) vwCl [(cJ, .long), (cI, .int)] (va_A [(x0, .inr (8, [.ref k0, .ref h0, .ref c0, .ref t0, .ref m0, .ref d0, .ref s0, .ref o0, .int xu])), (o0, .inr (5, [.ref o1])), (o1, .inl (cJ, 2, .inr (.inl (tv))))] sz) (fun _ => [(x0, .inr (8, [.ref k0, .ref h0, .ref c0, .ref t0, .ref m0, .ref d0, .ref s0, .ref o0, .int xu])), (o0, .inr (5, [.ref o1])), (o1, .inl (cJ, 2, .inr (.inl (vp_updL tv (2 * 0 + hf) xv))))])) (va_A [(x0, .inr (8, [.ref k0, .ref h0, .ref c0, .ref t0, .ref m0, .ref d0, .ref s0, .ref o0, .int xu])), (o0, .inr (5, [.ref o1])), (o1, .inl (cJ, 2, .inr (.inl (tv))))] sz)) 0 0 (va_A [(x0, .inr (8, [.ref k0, .ref h0, .ref c0, .ref t0, .ref m0, .ref d0, .ref s0, .ref o0, .int xu])), (o0, .inr (5, [.ref o1])), (o1, .inl (cJ, 2, .inr (.inl (tv))))] sz) := by
  refine Met.ofW (cc := cX8_tell) (maxL := 4) (ret := (some .int)) (by decide) rfl ?_
  intro p e s m args below meth c s₁ B hml hv
  obtain ⟨rfl, hsz, hP, hK, hD0⟩ := hv
  have hx := B.exec
  have hb := B.bytes
  have hr := B.returns
  have hts := atoms_spec (ws := wsX8_tell) B.pre
  have hown : s.vm.findClass RX8 = some m.cls := findClass_of_methodNamed B.named
  have hlocks := B.notSynchronized
  subst hsz
  have hD := hD0.self (sz := s.heap.size)
  generalize hAe : va_A [(x0, .inr (8, [.ref k0, .ref h0, .ref c0, .ref t0, .ref m0, .ref d0, .ref s0, .ref o0, .int xu])), (o0, .inr (5, [.ref o1])), (o1, .inl (cJ, 2, .inr (.inl (tv))))] s.heap.size = A at hD ⊢
  have hA : ∀ q : Nat, s.heap.size ≤ q → A q := fun q h => by rw [← hAe]; exact Or.inr h
  have hS : va_S A s.heap s.heap [] := va_S.rf
  have hP : va_P (dC, dI) vwCl [(x0, .inr (8, [.ref k0, .ref h0, .ref c0, .ref t0, .ref m0, .ref d0, .ref s0, .ref o0, .int xu])), (o0, .inr (5, [.ref o1])), (o1, .inl (cJ, 2, .inr (.inl (tv))))] s.heap := hP
  have hl := lv_entry ([.ref x0, .int (nI hf), .long xv]) (n := 4) (Nat.le_of_ble_eq_true rfl)
  rw [lg_entry_eq]
  generalize (lg_sl ([.ref x0, .int (nI hf), .long xv]) ++ List.replicate (4 - (lg_sl ([.ref x0, .int (nI hf), .long xv])).length) Slot.unset).toArray = ls at hl ⊢
  have iX8 : ∀ w ∈ wsX80, w ∈ wsX8_tell := by decide +kernel
  have f63 := hts (.fieldLink RX8 63 "LeafSigner" "told" "LLeafSigner$Pairs;") (by decide +kernel)
  have hl : lv_has ls 4 [(0, .ref x0), (1, .int (nI hf)), (2, .long xv)] := hl
  refine lv_iload_n hx hb dX8_tell_0 rfl (lv_at hl 1 rfl) ?_
  refine st_calli (va_runS (As := [.int (nI hf)]) (rest := []) ⟨hx, hb, hml, hown, hts⟩ (c_LeafSigner_isHalf l dC dI cJ cI  (nI hf)  s.heap.size) (va_cwS 1 hts gX8_tell_X8_isHalf rfl rfl rfl (by decide +kernel) ⟨Nat.le_of_ble_eq_true rfl, Nat.le_of_ble_eq_true rfl⟩) (st_preS hK hP hD [] rfl rfl) rfl rfl hl.1 rfl (lv_room (Nat.le_of_ble_eq_true rfl)) dX8_tell_1 ⟨Nat.le_of_ble_eq_true rfl, Nat.le_of_ble_eq_true rfl⟩) hP hD hS hA [] [0, 1, 2] (wr := [(x0, .inr (8, [.ref k0, .ref h0, .ref c0, .ref t0, .ref m0, .ref d0, .ref s0, .ref o0, .int xu])), (o0, .inr (5, [.ref o1])), (o1, .inl (cJ, 2, .inr (.inl (tv))))]) rfl rfl (by decide) (by decide) [0, 1, 2] (res := fun _ => [(x0, .inr (8, [.ref k0, .ref h0, .ref c0, .ref t0, .ref m0, .ref d0, .ref s0, .ref o0, .int xu])), (o0, .inr (5, [.ref o1])), (o1, .inl (cJ, 2, .inr (.inl (tv))))]) (fun _ => rfl) (by decide) (fun r_1 _ H locs hu hP hD hS => ?_)
  have hP : va_P (dC, dI) vwCl [(x0, .inr (8, [.ref k0, .ref h0, .ref c0, .ref t0, .ref m0, .ref d0, .ref s0, .ref o0, .int xu])), (o0, .inr (5, [.ref o1])), (o1, .inl (cJ, 2, .inr (.inl (tv))))] H := hP
  have hD : va_D A [(x0, .inr (8, [.ref k0, .ref h0, .ref c0, .ref t0, .ref m0, .ref d0, .ref s0, .ref o0, .int xu])), (o0, .inr (5, [.ref o1])), (o1, .inl (cJ, 2, .inr (.inl (tv))))] := hD
  subst hu
  refine lv_if_ne (tgt := 9) hx hb dX8_tell_4 (by decide) (fun c4 => ?_) (fun c4 => ?_)
  ·
    rw [q_b0] at c4
    refine lv_aload_n hx hb dX8_tell_9 rfl (lv_at hl 0 rfl) ?_
    refine va_get (D := (dC, dI)) (ci := 8) (v := .ref o0) (C := RX8) (T := TX8) (N := 9) hx hb hts iX8 hown hK hP 0 rfl rfl 7 (by decide) f63 (fun _ h9 => h9) rfl dX8_tell_10 ?_
    refine lv_iconst (v := nI 0) hx hb dX8_tell_13 (by decide) ?_
    refine lv_iload_n hx hb dX8_tell_14 rfl (lv_at hl 1 rfl) ?_
    refine lv_lload_n hx hb dX8_tell_15 rfl (lv_at hl 2 rfl) ?_
    refine st_callv (va_runV (As := [.int (nI 0), .int (nI hf), .long xv]) (rest := []) ⟨hx, hb, hml, hown, hts⟩ (c_Pairs_put l dC dI cJ cI o0 o1 2 tv 0 hf xv (by omega) (by omega) H.size) (cwV 3 hts gX8_tell_X5_put rfl rfl rfl (by decide +kernel) ⟨Nat.le_of_ble_eq_true rfl, Nat.le_of_ble_eq_true rfl⟩) (st_preV hK hP hD [1, 2] rfl rfl (ci := 5) (q0 := 0) rfl rfl) rfl rfl hl.1 rfl (lv_room (Nat.le_of_ble_eq_true rfl)) dX8_tell_16 ⟨Nat.le_of_ble_eq_true rfl, Nat.le_of_ble_eq_true rfl⟩) hP hD hS hA [1, 2] [0] (wr := [(x0, .inr (8, [.ref k0, .ref h0, .ref c0, .ref t0, .ref m0, .ref d0, .ref s0, .ref o0, .int xu]))]) rfl rfl (by decide) (by decide) [0, 1, 2] (res := fun _ => [(x0, .inr (8, [.ref k0, .ref h0, .ref c0, .ref t0, .ref m0, .ref d0, .ref s0, .ref o0, .int xu])), (o0, .inr (5, [.ref o1])), (o1, .inl (cJ, 2, .inr (.inl (vp_updL tv (2 * 0 + hf) xv))))]) (fun _ => rfl) (by decide) (fun  _ H locs hu hP hD hS => ?_)
    have hP : va_P (dC, dI) vwCl [(x0, .inr (8, [.ref k0, .ref h0, .ref c0, .ref t0, .ref m0, .ref d0, .ref s0, .ref o0, .int xu])), (o0, .inr (5, [.ref o1])), (o1, .inl (cJ, 2, .inr (.inl (vp_updL tv (2 * 0 + hf) xv))))] H := hP
    have hD : va_D A [(x0, .inr (8, [.ref k0, .ref h0, .ref c0, .ref t0, .ref m0, .ref d0, .ref s0, .ref o0, .int xu])), (o0, .inr (5, [.ref o1])), (o1, .inl (cJ, 2, .inr (.inl (vp_updL tv (2 * 0 + hf) xv))))] := hD
    refine lv_iconst (v := nI 1) hx hb dX8_tell_19 (by decide) ?_
    exact W.iret (v := nI 1) hx hb hr (fun t ht hW => ⟨⟨nI 1, (), rfl, rfl, by rw [ht]; exact hP, va_K.moved hW.alike hK, hD⟩, hS.F ht⟩) hS.2.2 dX8_tell_20
  ·
    rw [q_b0] at c4
    exact absurd (half_of hf1) (db_f c4)

set_option maxHeartbeats 4000000 in
set_option maxRecDepth 100000 in
theorem c_LeafSigner_hash (l : Launch) (dC : Nat → ClassId) (dI : Nat → Nat → Nat) (cJ cI : ClassId) (x0 k0 h0 c0 t0 m0 d0 s0 o0 m1 : Nat) (xu xk xh : Int32) (pv : Int64 × Int64) (ln : Nat) (mv : Nat → Int64) (hln : ln ≤ 20) (sz : Nat) : Met l yX8_hash wsX8_hash ({ frames := 3, cells := 0, slots := 0, locals := 69 }) (va_Pc [.ref x0, .int xk, .int xh] (st_B (dC, dI) vwCl [(cJ, .long), (cI, .int)] [(x0, .inr (8, [.ref k0, .ref h0, .ref c0, .ref t0, .ref m0, .ref d0, .ref s0, .ref o0, .int xu])), (h0, .inr (2, [.long pv.1, .long pv.2])), (m0, .inr (4, [.ref m1, .int (nI ln)])), (m1, .inl (cJ, 20, .inr (.inl (mv))))] sz)) (va_Ql (fun (r : Int64) (u : (Int64 × Int64)) => r = hsA xk mv ln xh ∧ (True)) (st_E (dC, dI) vwCl [(cJ, .long), (cI, .int)] (va_A [(x0, .inr (8, [.ref k0, .ref h0, .ref c0, .ref t0, .ref m0, .ref d0, .ref s0, .ref o0, .int xu])), (h0, .inr (2, [.long pv.1, .long pv.2])), (m0, .inr (4, [.ref m1, .int (nI ln)])), (m1, .inl (cJ, 20, .inr (.inl (mv))))] sz) (fun u => [(x0, .inr (8, [.ref k0, .ref h0, .ref c0, .ref t0, .ref m0, .ref d0, .ref s0, .ref o0, .int xu])), (h0, .inr (2, [.long u.1, .long u.2])), (m0, .inr (4, [.ref m1, .int (nI ln)])), (m1, .inl (cJ, 20, .inr (.inl (mv))))])) (va_A [(x0, .inr (8, [.ref k0, .ref h0, .ref c0, .ref t0, .ref m0, .ref d0, .ref s0, .ref o0, .int xu])), (h0, .inr (2, [.long pv.1, .long pv.2])), (m0, .inr (4, [.ref m1, .int (nI ln)])), (m1, .inl (cJ, 20, .inr (.inl (mv))))] sz)) 0 0 (va_A [(x0, .inr (8, [.ref k0, .ref h0, .ref c0, .ref t0, .ref m0, .ref d0, .ref s0, .ref o0, .int xu])), (h0, .inr (2, [.long pv.1, .long pv.2])), (m0, .inr (4, [.ref m1, .int (nI ln)])), (m1, .inl (cJ, 20, .inr (.inl (mv))))] sz) := by
  refine Met.ofW (cc := cX8_hash) (maxL := 3) (ret := (some .long)) (by decide) rfl ?_
  intro p e s m args below meth c s₁ B hml hv
  obtain ⟨rfl, hsz, hP, hK, hD0⟩ := hv
  have hx := B.exec
  have hb := B.bytes
  have hr := B.returns
  have hts := atoms_spec (ws := wsX8_hash) B.pre
  have hown : s.vm.findClass RX8 = some m.cls := findClass_of_methodNamed B.named
  have hlocks := B.notSynchronized
  subst hsz
  have hD := hD0.self (sz := s.heap.size)
  generalize hAe : va_A [(x0, .inr (8, [.ref k0, .ref h0, .ref c0, .ref t0, .ref m0, .ref d0, .ref s0, .ref o0, .int xu])), (h0, .inr (2, [.long pv.1, .long pv.2])), (m0, .inr (4, [.ref m1, .int (nI ln)])), (m1, .inl (cJ, 20, .inr (.inl (mv))))] s.heap.size = A at hD ⊢
  have hA : ∀ q : Nat, s.heap.size ≤ q → A q := fun q h => by rw [← hAe]; exact Or.inr h
  have hS : va_S A s.heap s.heap [] := va_S.rf
  have hP : va_P (dC, dI) vwCl [(x0, .inr (8, [.ref k0, .ref h0, .ref c0, .ref t0, .ref m0, .ref d0, .ref s0, .ref o0, .int xu])), (h0, .inr (2, [.long pv.1, .long pv.2])), (m0, .inr (4, [.ref m1, .int (nI ln)])), (m1, .inl (cJ, 20, .inr (.inl (mv))))] s.heap := hP
  have hl := lv_entry ([.ref x0, .int xk, .int xh]) (n := 3) (Nat.le_of_ble_eq_true rfl)
  rw [lg_entry_eq]
  generalize (lg_sl ([.ref x0, .int xk, .int xh]) ++ List.replicate (3 - (lg_sl ([.ref x0, .int xk, .int xh])).length) Slot.unset).toArray = ls at hl ⊢
  have iX8 : ∀ w ∈ wsX80, w ∈ wsX8_hash := by decide +kernel
  have iX4 : ∀ w ∈ wsX40, w ∈ wsX8_hash := by decide +kernel
  have iX2 : ∀ w ∈ wsX20, w ∈ wsX8_hash := by decide +kernel
  have f19 := hts (.fieldLink RX8 19 "LeafSigner" "hasher" "LLeafSigner$Hasher;") (by decide +kernel)
  have f40 := hts (.fieldLink RX8 40 "LeafSigner" "message" "LLeafSigner$Message;") (by decide +kernel)
  have f141 := hts (.fieldLink RX8 141 "LeafSigner$Message" "size" "I") (by decide +kernel)
  have f210 := hts (.fieldLink RX8 210 "LeafSigner$Hasher" "b" "J") (by decide +kernel)
  have f207 := hts (.fieldLink RX8 207 "LeafSigner$Hasher" "a" "J") (by decide +kernel)
  have hl : lv_has ls 3 [(0, .ref x0), (1, .int xk), (2, .int xh)] := hl
  refine lv_iload_n hx hb dX8_hash_0 rfl (lv_at hl 2 rfl) ?_
  refine st_calli (va_runS (As := [.int xh]) (rest := []) ⟨hx, hb, hml, hown, hts⟩ (c_LeafSigner_isHalf l dC dI cJ cI  xh  s.heap.size) (va_cwS 1 hts gX8_hash_X8_isHalf rfl rfl rfl (by decide +kernel) ⟨Nat.le_of_ble_eq_true rfl, Nat.le_of_ble_eq_true rfl⟩) (st_preS hK hP hD [] rfl rfl) rfl rfl hl.1 rfl (lv_room (Nat.le_of_ble_eq_true rfl)) dX8_hash_1 ⟨Nat.le_of_ble_eq_true rfl, Nat.le_of_ble_eq_true rfl⟩) hP hD hS hA [] [0, 1, 2, 3] (wr := [(x0, .inr (8, [.ref k0, .ref h0, .ref c0, .ref t0, .ref m0, .ref d0, .ref s0, .ref o0, .int xu])), (h0, .inr (2, [.long pv.1, .long pv.2])), (m0, .inr (4, [.ref m1, .int (nI ln)])), (m1, .inl (cJ, 20, .inr (.inl (mv))))]) rfl rfl (by decide) (by decide) [0, 1, 2, 3] (res := fun _ => [(x0, .inr (8, [.ref k0, .ref h0, .ref c0, .ref t0, .ref m0, .ref d0, .ref s0, .ref o0, .int xu])), (h0, .inr (2, [.long pv.1, .long pv.2])), (m0, .inr (4, [.ref m1, .int (nI ln)])), (m1, .inl (cJ, 20, .inr (.inl (mv))))]) (fun _ => rfl) (by decide) (fun r_1 _ H locs hu hP hD hS => ?_)
  have hP : va_P (dC, dI) vwCl [(x0, .inr (8, [.ref k0, .ref h0, .ref c0, .ref t0, .ref m0, .ref d0, .ref s0, .ref o0, .int xu])), (h0, .inr (2, [.long pv.1, .long pv.2])), (m0, .inr (4, [.ref m1, .int (nI ln)])), (m1, .inl (cJ, 20, .inr (.inl (mv))))] H := hP
  have hD : va_D A [(x0, .inr (8, [.ref k0, .ref h0, .ref c0, .ref t0, .ref m0, .ref d0, .ref s0, .ref o0, .int xu])), (h0, .inr (2, [.long pv.1, .long pv.2])), (m0, .inr (4, [.ref m1, .int (nI ln)])), (m1, .inl (cJ, 20, .inr (.inl (mv))))] := hD
  subst hu
  refine lv_if_ne (tgt := 9) hx hb dX8_hash_4 (by decide) (fun c4 => ?_) (fun c4 => ?_)
  ·
    rw [q_b0] at c4
    refine lv_aload_n hx hb dX8_hash_9 rfl (lv_at hl 0 rfl) ?_
    refine va_get (D := (dC, dI)) (ci := 8) (v := .ref h0) (C := RX8) (T := TX8) (N := 9) hx hb hts iX8 hown hK hP 0 rfl rfl 1 (by decide) f19 (fun _ h9 => h9) rfl dX8_hash_10 ?_
    refine lv_iload_n hx hb dX8_hash_13 rfl (lv_at hl 1 rfl) ?_
    refine lv_aload_n hx hb dX8_hash_14 rfl (lv_at hl 0 rfl) ?_
    refine va_get (D := (dC, dI)) (ci := 8) (v := .ref m0) (C := RX8) (T := TX8) (N := 9) hx hb hts iX8 hown hK hP 0 rfl rfl 4 (by decide) f40 (fun _ h9 => h9) rfl dX8_hash_15 ?_
    refine va_get (D := (dC, dI)) (ci := 4) (v := .int (nI ln)) (C := RX4) (T := TX4) (N := 2) hx hb hts iX4 hown hK hP 2 rfl rfl 1 (by decide) f141 (fun _ h9 => h9) rfl dX8_hash_18 ?_
    refine st_callv (va_runV (As := [.int xk, .int (nI ln)]) (rest := []) ⟨hx, hb, hml, hown, hts⟩ (c_Hasher_start l dC dI cJ cI h0 pv xk (nI ln) xk.toInt64 (lN ln) rfl (nI_l (by omega)) H.size) (cwV 2 hts gX8_hash_X2_start rfl rfl rfl (by decide +kernel) ⟨Nat.le_of_ble_eq_true rfl, Nat.le_of_ble_eq_true rfl⟩) (st_preV hK hP hD [1] rfl rfl (ci := 2) (q0 := 0) rfl rfl) rfl rfl hl.1 rfl (lv_room (Nat.le_of_ble_eq_true rfl)) dX8_hash_21 ⟨Nat.le_of_ble_eq_true rfl, Nat.le_of_ble_eq_true rfl⟩) hP hD hS hA [1] [0, 2, 3] (wr := [(x0, .inr (8, [.ref k0, .ref h0, .ref c0, .ref t0, .ref m0, .ref d0, .ref s0, .ref o0, .int xu])), (m0, .inr (4, [.ref m1, .int (nI ln)])), (m1, .inl (cJ, 20, .inr (.inl (mv))))]) rfl rfl (by decide) (by decide) [0, 3, 1, 2] (res := fun _ => [(x0, .inr (8, [.ref k0, .ref h0, .ref c0, .ref t0, .ref m0, .ref d0, .ref s0, .ref o0, .int xu])), (h0, .inr (2, [.long xk.toInt64, .long (lN ln)])), (m0, .inr (4, [.ref m1, .int (nI ln)])), (m1, .inl (cJ, 20, .inr (.inl (mv))))]) (fun _ => rfl) (by decide) (fun  _ H locs hu hP hD hS => ?_)
    have hP : va_P (dC, dI) vwCl [(x0, .inr (8, [.ref k0, .ref h0, .ref c0, .ref t0, .ref m0, .ref d0, .ref s0, .ref o0, .int xu])), (h0, .inr (2, [.long xk.toInt64, .long (lN ln)])), (m0, .inr (4, [.ref m1, .int (nI ln)])), (m1, .inl (cJ, 20, .inr (.inl (mv))))] H := hP
    have hD : va_D A [(x0, .inr (8, [.ref k0, .ref h0, .ref c0, .ref t0, .ref m0, .ref d0, .ref s0, .ref o0, .int xu])), (h0, .inr (2, [.long xk.toInt64, .long (lN ln)])), (m0, .inr (4, [.ref m1, .int (nI ln)])), (m1, .inl (cJ, 20, .inr (.inl (mv))))] := hD
    refine lv_aload_n hx hb dX8_hash_24 rfl (lv_at hl 0 rfl) ?_
    refine va_get (D := (dC, dI)) (ci := 8) (v := .ref h0) (C := RX8) (T := TX8) (N := 9) hx hb hts iX8 hown hK hP 0 rfl rfl 1 (by decide) f19 (fun _ h9 => h9) rfl dX8_hash_25 ?_
    refine lv_aload_n hx hb dX8_hash_28 rfl (lv_at hl 0 rfl) ?_
    refine va_get (D := (dC, dI)) (ci := 8) (v := .ref m0) (C := RX8) (T := TX8) (N := 9) hx hb hts iX8 hown hK hP 0 rfl rfl 4 (by decide) f40 (fun _ h9 => h9) rfl dX8_hash_29 ?_
    refine st_callv (va_runV (As := [.ref m0]) (rest := []) ⟨hx, hb, hml, hown, hts⟩ (c_Hasher_addMessage l dC dI cJ cI h0 m0 m1 (xk.toInt64, lN ln) ln mv (by omega) H.size) (cwV 1 hts gX8_hash_X2_addMessage rfl rfl rfl (by decide +kernel) ⟨Nat.le_of_ble_eq_true rfl, Nat.le_of_ble_eq_true rfl⟩) (st_preV hK hP hD [1, 2, 3] rfl rfl (ci := 2) (q0 := 0) rfl rfl) rfl rfl hl.1 rfl (lv_room (Nat.le_of_ble_eq_true rfl)) dX8_hash_32 ⟨Nat.le_of_ble_eq_true rfl, Nat.le_of_ble_eq_true rfl⟩) hP hD hS hA [1, 2, 3] [0] (wr := [(x0, .inr (8, [.ref k0, .ref h0, .ref c0, .ref t0, .ref m0, .ref d0, .ref s0, .ref o0, .int xu]))]) rfl rfl (by decide) (by decide) [0, 1, 2, 3] (res := fun _ => [(x0, .inr (8, [.ref k0, .ref h0, .ref c0, .ref t0, .ref m0, .ref d0, .ref s0, .ref o0, .int xu])), (h0, .inr (2, [.long ((hm (xk.toInt64, lN ln) mv ln).1), .long ((hm (xk.toInt64, lN ln) mv ln).2)])), (m0, .inr (4, [.ref m1, .int (nI ln)])), (m1, .inl (cJ, 20, .inr (.inl (mv))))]) (fun _ => rfl) (by decide) (fun  _ H locs hu hP hD hS => ?_)
    have hP : va_P (dC, dI) vwCl [(x0, .inr (8, [.ref k0, .ref h0, .ref c0, .ref t0, .ref m0, .ref d0, .ref s0, .ref o0, .int xu])), (h0, .inr (2, [.long ((hm (xk.toInt64, lN ln) mv ln).1), .long ((hm (xk.toInt64, lN ln) mv ln).2)])), (m0, .inr (4, [.ref m1, .int (nI ln)])), (m1, .inl (cJ, 20, .inr (.inl (mv))))] H := hP
    have hD : va_D A [(x0, .inr (8, [.ref k0, .ref h0, .ref c0, .ref t0, .ref m0, .ref d0, .ref s0, .ref o0, .int xu])), (h0, .inr (2, [.long ((hm (xk.toInt64, lN ln) mv ln).1), .long ((hm (xk.toInt64, lN ln) mv ln).2)])), (m0, .inr (4, [.ref m1, .int (nI ln)])), (m1, .inl (cJ, 20, .inr (.inl (mv))))] := hD
    refine lv_iload_n hx hb dX8_hash_35 rfl (lv_at hl 2 rfl) ?_
    refine lv_if_ne (tgt := 49) hx hb dX8_hash_36 (by decide) (fun c36 => ?_) (fun c36 => ?_)
    ·
      refine lv_aload_n hx hb dX8_hash_49 rfl (lv_at hl 0 rfl) ?_
      refine va_get (D := (dC, dI)) (ci := 8) (v := .ref h0) (C := RX8) (T := TX8) (N := 9) hx hb hts iX8 hown hK hP 0 rfl rfl 1 (by decide) f19 (fun _ h9 => h9) rfl dX8_hash_50 ?_
      refine va_get (D := (dC, dI)) (ci := 2) (v := .long ((hm (xk.toInt64, lN ln) mv ln).2)) (C := RX2) (T := TX2) (N := 2) hx hb hts iX2 hown hK hP 1 rfl rfl 1 (by decide) f210 (fun _ h9 => h9) rfl dX8_hash_53 ?_
      exact W.lret (v := (hm (xk.toInt64, lN ln) mv ln).2) hx hb hr (fun t ht hW => ⟨⟨(hm (xk.toInt64, lN ln) mv ln).2, (hm (xk.toInt64, lN ln) mv ln), rfl, ⟨by unfold hsA; rw [if_neg c36, if_pos ((db_t c4).resolve_left c36)], trivial⟩, by rw [ht]; exact hP, va_K.moved hW.alike hK, hD⟩, hS.F ht⟩) hS.2.2 dX8_hash_56
    ·
      refine lv_aload_n hx hb dX8_hash_39 rfl (lv_at hl 0 rfl) ?_
      refine va_get (D := (dC, dI)) (ci := 8) (v := .ref h0) (C := RX8) (T := TX8) (N := 9) hx hb hts iX8 hown hK hP 0 rfl rfl 1 (by decide) f19 (fun _ h9 => h9) rfl dX8_hash_40 ?_
      refine va_get (D := (dC, dI)) (ci := 2) (v := .long ((hm (xk.toInt64, lN ln) mv ln).1)) (C := RX2) (T := TX2) (N := 2) hx hb hts iX2 hown hK hP 1 rfl rfl 0 (by decide) f207 (fun _ h9 => h9) rfl dX8_hash_43 ?_
      refine lv_goto (tgt := 56) hx hb dX8_hash_46 (by decide) ?_
      exact W.lret (v := (hm (xk.toInt64, lN ln) mv ln).1) hx hb hr (fun t ht hW => ⟨⟨(hm (xk.toInt64, lN ln) mv ln).1, (hm (xk.toInt64, lN ln) mv ln), rfl, ⟨by unfold hsA; rw [if_pos c36], trivial⟩, by rw [ht]; exact hP, va_K.moved hW.alike hK, hD⟩, hS.F ht⟩) hS.2.2 dX8_hash_56
  ·
    rw [q_b0] at c4
    refine lv_lconst (v := lN 0) hx hb dX8_hash_7 (by decide) ?_
    exact W.lret (v := lN 0) hx hb hr (fun t ht hW => ⟨⟨lN 0, pv, rfl, ⟨by unfold hsA; rw [if_neg (fun q => db_f c4 (Or.inl q)), if_neg (fun q => db_f c4 (Or.inr q))], trivial⟩, by rw [ht]; exact hP, va_K.moved hW.alike hK, hD⟩, hS.F ht⟩) hS.2.2 dX8_hash_8

set_option maxHeartbeats 4000000 in
set_option maxRecDepth 100000 in
theorem c_LeafSigner_count (l : Launch) (dC : Nat → ClassId) (dI : Nat → Nat → Nat) (cJ cI : ClassId) (x0 k0 h0 c0 t0 m0 d0 s0 o0 n0 m1 p0 : Nat) (w1 w2 ov : Int64) (hh md us ln : Nat) (xl xn xw : Int32) (mv : Nat → Int64) (h4 : hh ≤ 4) (sz : Nat) : Met l yX8_count wsX8_count ({ frames := 1, cells := 0, slots := 0, locals := 20 }) (va_Pc [.ref x0, .int xw] (st_B (dC, dI) vwCl [(cJ, .long), (cI, .int)] [(x0, .inr (8, [.ref k0, .ref h0, .ref c0, .ref t0, .ref m0, .ref d0, .ref s0, .ref o0, .int (nI us)])), (k0, .inr (3, [.long w1, .long w2, .long ov, .int (nI hh)])), (t0, .inr (7, [.ref n0, .int (nI md)])), (m0, .inr (4, [.ref m1, .int (nI ln)])), (m1, .inl (cJ, 20, .inr (.inl (mv)))), (s0, .inr (6, [.ref p0, .int xl, .int xn]))] sz)) (va_Qi (fun (r : Int32) (_ : Unit) => r = ctA hh md us ln xn xw) (st_E (dC, dI) vwCl [(cJ, .long), (cI, .int)] (va_A [(x0, .inr (8, [.ref k0, .ref h0, .ref c0, .ref t0, .ref m0, .ref d0, .ref s0, .ref o0, .int (nI us)])), (k0, .inr (3, [.long w1, .long w2, .long ov, .int (nI hh)])), (t0, .inr (7, [.ref n0, .int (nI md)])), (m0, .inr (4, [.ref m1, .int (nI ln)])), (m1, .inl (cJ, 20, .inr (.inl (mv)))), (s0, .inr (6, [.ref p0, .int xl, .int xn]))] sz) (fun _ => [(x0, .inr (8, [.ref k0, .ref h0, .ref c0, .ref t0, .ref m0, .ref d0, .ref s0, .ref o0, .int (nI us)])), (k0, .inr (3, [.long w1, .long w2, .long ov, .int (nI hh)])), (t0, .inr (7, [.ref n0, .int (nI md)])), (m0, .inr (4, [.ref m1, .int (nI ln)])), (m1, .inl (cJ, 20, .inr (.inl (mv)))), (s0, .inr (6, [.ref p0, .int xl, .int xn]))])) (va_A [(x0, .inr (8, [.ref k0, .ref h0, .ref c0, .ref t0, .ref m0, .ref d0, .ref s0, .ref o0, .int (nI us)])), (k0, .inr (3, [.long w1, .long w2, .long ov, .int (nI hh)])), (t0, .inr (7, [.ref n0, .int (nI md)])), (m0, .inr (4, [.ref m1, .int (nI ln)])), (m1, .inl (cJ, 20, .inr (.inl (mv)))), (s0, .inr (6, [.ref p0, .int xl, .int xn]))] sz)) 0 0 (va_A [(x0, .inr (8, [.ref k0, .ref h0, .ref c0, .ref t0, .ref m0, .ref d0, .ref s0, .ref o0, .int (nI us)])), (k0, .inr (3, [.long w1, .long w2, .long ov, .int (nI hh)])), (t0, .inr (7, [.ref n0, .int (nI md)])), (m0, .inr (4, [.ref m1, .int (nI ln)])), (m1, .inl (cJ, 20, .inr (.inl (mv)))), (s0, .inr (6, [.ref p0, .int xl, .int xn]))] sz) := by
  refine Met.ofW (cc := cX8_count) (maxL := 2) (ret := (some .int)) (by decide) rfl ?_
  intro p e s m args below meth c s₁ B hml hv
  obtain ⟨rfl, hsz, hP, hK, hD0⟩ := hv
  have hx := B.exec
  have hb := B.bytes
  have hr := B.returns
  have hts := atoms_spec (ws := wsX8_count) B.pre
  have hown : s.vm.findClass RX8 = some m.cls := findClass_of_methodNamed B.named
  have hlocks := B.notSynchronized
  subst hsz
  have hD := hD0.self (sz := s.heap.size)
  generalize hAe : va_A [(x0, .inr (8, [.ref k0, .ref h0, .ref c0, .ref t0, .ref m0, .ref d0, .ref s0, .ref o0, .int (nI us)])), (k0, .inr (3, [.long w1, .long w2, .long ov, .int (nI hh)])), (t0, .inr (7, [.ref n0, .int (nI md)])), (m0, .inr (4, [.ref m1, .int (nI ln)])), (m1, .inl (cJ, 20, .inr (.inl (mv)))), (s0, .inr (6, [.ref p0, .int xl, .int xn]))] s.heap.size = A at hD ⊢
  have hA : ∀ q : Nat, s.heap.size ≤ q → A q := fun q h => by rw [← hAe]; exact Or.inr h
  have hS : va_S A s.heap s.heap [] := va_S.rf
  have hP : va_P (dC, dI) vwCl [(x0, .inr (8, [.ref k0, .ref h0, .ref c0, .ref t0, .ref m0, .ref d0, .ref s0, .ref o0, .int (nI us)])), (k0, .inr (3, [.long w1, .long w2, .long ov, .int (nI hh)])), (t0, .inr (7, [.ref n0, .int (nI md)])), (m0, .inr (4, [.ref m1, .int (nI ln)])), (m1, .inl (cJ, 20, .inr (.inl (mv)))), (s0, .inr (6, [.ref p0, .int xl, .int xn]))] s.heap := hP
  have hl := lv_entry ([.ref x0, .int xw]) (n := 2) (Nat.le_of_ble_eq_true rfl)
  rw [lg_entry_eq]
  generalize (lg_sl ([.ref x0, .int xw]) ++ List.replicate (2 - (lg_sl ([.ref x0, .int xw])).length) Slot.unset).toArray = ls at hl ⊢
  have iX8 : ∀ w ∈ wsX80, w ∈ wsX8_count := by decide +kernel
  have iX7 : ∀ w ∈ wsX70, w ∈ wsX8_count := by decide +kernel
  have iX4 : ∀ w ∈ wsX40, w ∈ wsX8_count := by decide +kernel
  have iX6 : ∀ w ∈ wsX60, w ∈ wsX8_count := by decide +kernel
  have f10 := hts (.fieldLink RX8 10 "LeafSigner" "keys" "LLeafSigner$Keys;") (by decide +kernel)
  have f33 := hts (.fieldLink RX8 33 "LeafSigner" "tree" "LLeafSigner$Tree;") (by decide +kernel)
  have f83 := hts (.fieldLink RX8 83 "LeafSigner$Tree" "made" "I") (by decide +kernel)
  have f67 := hts (.fieldLink RX8 67 "LeafSigner" "used" "I") (by decide +kernel)
  have f40 := hts (.fieldLink RX8 40 "LeafSigner" "message" "LLeafSigner$Message;") (by decide +kernel)
  have f141 := hts (.fieldLink RX8 141 "LeafSigner$Message" "size" "I") (by decide +kernel)
  have f54 := hts (.fieldLink RX8 54 "LeafSigner" "signature" "LLeafSigner$Signature;") (by decide +kernel)
  have f213 := hts (.fieldLink RX8 213 "LeafSigner$Signature" "size" "I") (by decide +kernel)
  have hl : lv_has ls 2 [(0, .ref x0), (1, .int xw)] := hl
  refine lv_iload_n hx hb dX8_count_0 rfl (lv_at hl 1 rfl) ?_
  by_cases e0 : xw = nI 0
  ·
    subst e0
    refine lv_tableIn (tgt := 36) hx hb dX8_count_1 (by decide) (by decide) (by first | rfl | decide) (by decide) ?_
    refine lv_aload_n hx hb dX8_count_36 rfl (lv_at hl 0 rfl) ?_
    refine va_get (D := (dC, dI)) (ci := 8) (v := .ref k0) (C := RX8) (T := TX8) (N := 9) hx hb hts iX8 hown hK hP 0 rfl rfl 0 (by decide) f10 (fun _ h9 => h9) rfl dX8_count_37 ?_
    refine st_calli (va_runV (As := []) (rest := []) ⟨hx, hb, hml, hown, hts⟩ (c_Keys_leaves l dC dI cJ cI k0 w1 w2 ov hh (by omega) s.heap.size) (cwV 0 hts gX8_count_X3_leaves rfl rfl rfl (by decide +kernel) ⟨Nat.le_of_ble_eq_true rfl, Nat.le_of_ble_eq_true rfl⟩) (st_preV hK hP hD [1] rfl rfl (ci := 3) (q0 := 0) rfl rfl) rfl rfl hl.1 rfl (lv_room (Nat.le_of_ble_eq_true rfl)) dX8_count_40 ⟨Nat.le_of_ble_eq_true rfl, Nat.le_of_ble_eq_true rfl⟩) hP hD hS hA [1] [0, 2, 3, 4, 5] (wr := [(x0, .inr (8, [.ref k0, .ref h0, .ref c0, .ref t0, .ref m0, .ref d0, .ref s0, .ref o0, .int (nI us)])), (t0, .inr (7, [.ref n0, .int (nI md)])), (m0, .inr (4, [.ref m1, .int (nI ln)])), (m1, .inl (cJ, 20, .inr (.inl (mv)))), (s0, .inr (6, [.ref p0, .int xl, .int xn]))]) rfl rfl (by decide) (by decide) [0, 5, 1, 2, 3, 4] (res := fun _ => [(x0, .inr (8, [.ref k0, .ref h0, .ref c0, .ref t0, .ref m0, .ref d0, .ref s0, .ref o0, .int (nI us)])), (k0, .inr (3, [.long w1, .long w2, .long ov, .int (nI hh)])), (t0, .inr (7, [.ref n0, .int (nI md)])), (m0, .inr (4, [.ref m1, .int (nI ln)])), (m1, .inl (cJ, 20, .inr (.inl (mv)))), (s0, .inr (6, [.ref p0, .int xl, .int xn]))]) (fun _ => rfl) (by decide) (fun r_1 _ H locs hu hP hD hS => ?_)
    have hP : va_P (dC, dI) vwCl [(x0, .inr (8, [.ref k0, .ref h0, .ref c0, .ref t0, .ref m0, .ref d0, .ref s0, .ref o0, .int (nI us)])), (k0, .inr (3, [.long w1, .long w2, .long ov, .int (nI hh)])), (t0, .inr (7, [.ref n0, .int (nI md)])), (m0, .inr (4, [.ref m1, .int (nI ln)])), (m1, .inl (cJ, 20, .inr (.inl (mv)))), (s0, .inr (6, [.ref p0, .int xl, .int xn]))] H := hP
    have hD : va_D A [(x0, .inr (8, [.ref k0, .ref h0, .ref c0, .ref t0, .ref m0, .ref d0, .ref s0, .ref o0, .int (nI us)])), (k0, .inr (3, [.long w1, .long w2, .long ov, .int (nI hh)])), (t0, .inr (7, [.ref n0, .int (nI md)])), (m0, .inr (4, [.ref m1, .int (nI ln)])), (m1, .inl (cJ, 20, .inr (.inl (mv)))), (s0, .inr (6, [.ref p0, .int xl, .int xn]))] := hD
    subst hu
    exact W.iret (v := nI (2 ^ hh)) hx hb hr (fun t ht hW => ⟨⟨nI (2 ^ hh), (), rfl, by unfold ctA; rw [if_pos rfl], by rw [ht]; exact hP, va_K.moved hW.alike hK, hD⟩, hS.F ht⟩) hS.2.2 dX8_count_43
  by_cases e1 : xw = nI 1
  ·
    subst e1
    refine lv_tableIn (tgt := 44) hx hb dX8_count_1 (by decide) (by decide) (by first | rfl | decide) (by decide) ?_
    refine lv_aload_n hx hb dX8_count_44 rfl (lv_at hl 0 rfl) ?_
    refine va_get (D := (dC, dI)) (ci := 8) (v := .ref t0) (C := RX8) (T := TX8) (N := 9) hx hb hts iX8 hown hK hP 0 rfl rfl 3 (by decide) f33 (fun _ h9 => h9) rfl dX8_count_45 ?_
    refine va_get (D := (dC, dI)) (ci := 7) (v := .int (nI md)) (C := RX7) (T := TX7) (N := 2) hx hb hts iX7 hown hK hP 2 rfl rfl 1 (by decide) f83 (fun _ h9 => h9) rfl dX8_count_48 ?_
    exact W.iret (v := nI md) hx hb hr (fun t ht hW => ⟨⟨nI md, (), rfl, by unfold ctA; rw [if_neg (show ¬ nI 1 = nI 0 by decide)]; rw [if_pos rfl], by rw [ht]; exact hP, va_K.moved hW.alike hK, hD⟩, hS.F ht⟩) hS.2.2 dX8_count_51
  by_cases e2 : xw = nI 2
  ·
    subst e2
    refine lv_tableIn (tgt := 52) hx hb dX8_count_1 (by decide) (by decide) (by first | rfl | decide) (by decide) ?_
    refine lv_aload_n hx hb dX8_count_52 rfl (lv_at hl 0 rfl) ?_
    refine va_get (D := (dC, dI)) (ci := 8) (v := .int (nI us)) (C := RX8) (T := TX8) (N := 9) hx hb hts iX8 hown hK hP 0 rfl rfl 8 (by decide) f67 (fun _ h9 => h9) rfl dX8_count_53 ?_
    exact W.iret (v := nI us) hx hb hr (fun t ht hW => ⟨⟨nI us, (), rfl, by unfold ctA; rw [if_neg (show ¬ nI 2 = nI 0 by decide)]; rw [if_neg (show ¬ nI 2 = nI 1 by decide)]; rw [if_pos rfl], by rw [ht]; exact hP, va_K.moved hW.alike hK, hD⟩, hS.F ht⟩) hS.2.2 dX8_count_56
  by_cases e3 : xw = nI 3
  ·
    subst e3
    refine lv_tableIn (tgt := 57) hx hb dX8_count_1 (by decide) (by decide) (by first | rfl | decide) (by decide) ?_
    refine lv_aload_n hx hb dX8_count_57 rfl (lv_at hl 0 rfl) ?_
    refine va_get (D := (dC, dI)) (ci := 8) (v := .ref m0) (C := RX8) (T := TX8) (N := 9) hx hb hts iX8 hown hK hP 0 rfl rfl 4 (by decide) f40 (fun _ h9 => h9) rfl dX8_count_58 ?_
    refine va_get (D := (dC, dI)) (ci := 4) (v := .int (nI ln)) (C := RX4) (T := TX4) (N := 2) hx hb hts iX4 hown hK hP 3 rfl rfl 1 (by decide) f141 (fun _ h9 => h9) rfl dX8_count_61 ?_
    exact W.iret (v := nI ln) hx hb hr (fun t ht hW => ⟨⟨nI ln, (), rfl, by unfold ctA; rw [if_neg (show ¬ nI 3 = nI 0 by decide)]; rw [if_neg (show ¬ nI 3 = nI 1 by decide)]; rw [if_neg (show ¬ nI 3 = nI 2 by decide)]; rw [if_pos rfl], by rw [ht]; exact hP, va_K.moved hW.alike hK, hD⟩, hS.F ht⟩) hS.2.2 dX8_count_64
  by_cases e4 : xw = nI 4
  ·
    subst e4
    refine lv_tableIn (tgt := 65) hx hb dX8_count_1 (by decide) (by decide) (by first | rfl | decide) (by decide) ?_
    refine lv_aload_n hx hb dX8_count_65 rfl (lv_at hl 0 rfl) ?_
    refine va_get (D := (dC, dI)) (ci := 8) (v := .ref s0) (C := RX8) (T := TX8) (N := 9) hx hb hts iX8 hown hK hP 0 rfl rfl 6 (by decide) f54 (fun _ h9 => h9) rfl dX8_count_66 ?_
    refine va_get (D := (dC, dI)) (ci := 6) (v := .int xn) (C := RX6) (T := TX6) (N := 3) hx hb hts iX6 hown hK hP 5 rfl rfl 2 (by decide) f213 (fun _ h9 => h9) rfl dX8_count_69 ?_
    exact W.iret (v := xn) hx hb hr (fun t ht hW => ⟨⟨xn, (), rfl, by unfold ctA; rw [if_neg (show ¬ nI 4 = nI 0 by decide)]; rw [if_neg (show ¬ nI 4 = nI 1 by decide)]; rw [if_neg (show ¬ nI 4 = nI 2 by decide)]; rw [if_neg (show ¬ nI 4 = nI 3 by decide)]; rw [if_pos rfl], by rw [ht]; exact hP, va_K.moved hW.alike hK, hD⟩, hS.F ht⟩) hS.2.2 dX8_count_72
  refine lv_tableOut (tgt := 73) hx hb dX8_count_1 (sw_out e0 e1 e2 e3 e4) (by decide) ?_
  refine lv_iconst (v := -1) hx hb dX8_count_73 (by decide) ?_
  exact W.iret (v := -1) hx hb hr (fun t ht hW => ⟨⟨-1, (), rfl, by unfold ctA; rw [if_neg e0, if_neg e1, if_neg e2, if_neg e3, if_neg e4], by rw [ht]; exact hP, va_K.moved hW.alike hK, hD⟩, hS.F ht⟩) hS.2.2 dX8_count_74
end
