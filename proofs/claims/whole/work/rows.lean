section
-- ===== PART A: goes FIRST, ahead of the names: the tables' words, and 'selects' of the private methods out of them =====
/-- a private method of a class that the tables say can be made, by its rows of tables_1 -/
def lw_okq (q : MethodName × Nat) : Prop := (q.1.cls ≠ "java/lang/invoke/MethodHandle" ∧ q.1.cls ≠ "java/lang/invoke/VarHandle") ∧ Cond.instantiable q.1.cls q.2 ∈ tables_1 ∧ Cond.privateMethod q.1 ∈ tables_1 ∧ Cond.instanceMethod q.1 ∈ tables_1
theorem lw_p0 : lw_okq (⟨"java/lang/Throwable", "fillInStackTrace", "(I)Ljava/lang/Throwable;"⟩, 6) := ⟨⟨by decide +kernel, by decide +kernel⟩, List.mem_of_getElem? (i := 158) (by decide +kernel), List.mem_of_getElem? (i := 156) (by decide +kernel), List.mem_of_getElem? (i := 157) (by decide +kernel)⟩
theorem lw_p1 : lw_okq (⟨"DecimalTruth", "spell", "(JILDecimalTruth$Decimal;)V"⟩, 9) := ⟨⟨by decide +kernel, by decide +kernel⟩, List.mem_of_getElem? (i := 18) (by decide +kernel), List.mem_of_getElem? (i := 198) (by decide +kernel), List.mem_of_getElem? (i := 199) (by decide +kernel)⟩
theorem lw_p2 : lw_okq (⟨"DecimalTruth$Decimal", "readGroup", "(J)V"⟩, 3) := ⟨⟨by decide +kernel, by decide +kernel⟩, List.mem_of_getElem? (i := 26) (by decide +kernel), List.mem_of_getElem? (i := 230) (by decide +kernel), List.mem_of_getElem? (i := 231) (by decide +kernel)⟩
theorem lw_p3 : lw_okq (⟨"DecimalTruth$Decimal", "dropZerosAtEnd", "()V"⟩, 3) := ⟨⟨by decide +kernel, by decide +kernel⟩, List.mem_of_getElem? (i := 26) (by decide +kernel), List.mem_of_getElem? (i := 240) (by decide +kernel), List.mem_of_getElem? (i := 241) (by decide +kernel)⟩
theorem lw_p4 : lw_okq (⟨"DecimalTruth", "forgetWhatCame", "()V"⟩, 9) := ⟨⟨by decide +kernel, by decide +kernel⟩, List.mem_of_getElem? (i := 18) (by decide +kernel), List.mem_of_getElem? (i := 244) (by decide +kernel), List.mem_of_getElem? (i := 245) (by decide +kernel)⟩
theorem lw_p5 : lw_okq (⟨"DecimalTruth", "hasNoRoomFor", "(I)Z"⟩, 9) := ⟨⟨by decide +kernel, by decide +kernel⟩, List.mem_of_getElem? (i := 18) (by decide +kernel), List.mem_of_getElem? (i := 257) (by decide +kernel), List.mem_of_getElem? (i := 258) (by decide +kernel)⟩
theorem lw_p6 : lw_okq (⟨"DecimalTruth", "bringDigit", "(I)V"⟩, 9) := ⟨⟨by decide +kernel, by decide +kernel⟩, List.mem_of_getElem? (i := 18) (by decide +kernel), List.mem_of_getElem? (i := 277) (by decide +kernel), List.mem_of_getElem? (i := 278) (by decide +kernel)⟩
theorem lw_p7 : lw_okq (⟨"DecimalTruth", "roundToDigits", "(I)V"⟩, 9) := ⟨⟨by decide +kernel, by decide +kernel⟩, List.mem_of_getElem? (i := 18) (by decide +kernel), List.mem_of_getElem? (i := 302) (by decide +kernel), List.mem_of_getElem? (i := 303) (by decide +kernel)⟩
theorem lw_p8 : lw_okq (⟨"DecimalTruth$Decimal", "goUp", "()V"⟩, 3) := ⟨⟨by decide +kernel, by decide +kernel⟩, List.mem_of_getElem? (i := 26) (by decide +kernel), List.mem_of_getElem? (i := 319) (by decide +kernel), List.mem_of_getElem? (i := 320) (by decide +kernel)⟩
theorem lw_p9 : lw_okq (⟨"DecimalTruth", "nearestSize", "()J"⟩, 9) := ⟨⟨by decide +kernel, by decide +kernel⟩, List.mem_of_getElem? (i := 18) (by decide +kernel), List.mem_of_getElem? (i := 339) (by decide +kernel), List.mem_of_getElem? (i := 340) (by decide +kernel)⟩
theorem lw_p10 : lw_okq (⟨"DecimalTruth$Words", "firstThatIsNotZero", "(I)I"⟩, 2) := ⟨⟨by decide +kernel, by decide +kernel⟩, List.mem_of_getElem? (i := 69) (by decide +kernel), List.mem_of_getElem? (i := 355) (by decide +kernel), List.mem_of_getElem? (i := 356) (by decide +kernel)⟩
theorem lw_p11 : lw_okq (⟨"DecimalTruth$Words", "isMoreFrom", "(I)Z"⟩, 2) := ⟨⟨by decide +kernel, by decide +kernel⟩, List.mem_of_getElem? (i := 69) (by decide +kernel), List.mem_of_getElem? (i := 376) (by decide +kernel), List.mem_of_getElem? (i := 377) (by decide +kernel)⟩
theorem lw_p12 : lw_okq (⟨"DecimalTruth", "leastDigitsFor", "(J)I"⟩, 9) := ⟨⟨by decide +kernel, by decide +kernel⟩, List.mem_of_getElem? (i := 18) (by decide +kernel), List.mem_of_getElem? (i := 408) (by decide +kernel), List.mem_of_getElem? (i := 409) (by decide +kernel)⟩
theorem lw_p13 : lw_okq (⟨"DecimalTruth", "spellMiddleAbove", "(JLDecimalTruth$Decimal;)V"⟩, 9) := ⟨⟨by decide +kernel, by decide +kernel⟩, List.mem_of_getElem? (i := 18) (by decide +kernel), List.mem_of_getElem? (i := 412) (by decide +kernel), List.mem_of_getElem? (i := 413) (by decide +kernel)⟩
theorem lw_p14 : lw_okq (⟨"DecimalTruth", "holdsWith", "(IZ)Z"⟩, 9) := ⟨⟨by decide +kernel, by decide +kernel⟩, List.mem_of_getElem? (i := 18) (by decide +kernel), List.mem_of_getElem? (i := 417) (by decide +kernel), List.mem_of_getElem? (i := 418) (by decide +kernel)⟩
theorem lw_p15 : lw_okq (⟨"DecimalTruthModel", "fails", "(ZI)Z"⟩, 19) := ⟨⟨by decide +kernel, by decide +kernel⟩, List.mem_of_getElem? (i := 454) (by decide +kernel), List.mem_of_getElem? (i := 526) (by decide +kernel), List.mem_of_getElem? (i := 527) (by decide +kernel)⟩
def lw_privs_1 : List (MethodName × Nat) := [(⟨"java/lang/Throwable", "fillInStackTrace", "(I)Ljava/lang/Throwable;"⟩, 6), (⟨"DecimalTruth", "spell", "(JILDecimalTruth$Decimal;)V"⟩, 9), (⟨"DecimalTruth$Decimal", "readGroup", "(J)V"⟩, 3), (⟨"DecimalTruth$Decimal", "dropZerosAtEnd", "()V"⟩, 3), (⟨"DecimalTruth", "forgetWhatCame", "()V"⟩, 9), (⟨"DecimalTruth", "hasNoRoomFor", "(I)Z"⟩, 9), (⟨"DecimalTruth", "bringDigit", "(I)V"⟩, 9), (⟨"DecimalTruth", "roundToDigits", "(I)V"⟩, 9), (⟨"DecimalTruth$Decimal", "goUp", "()V"⟩, 3), (⟨"DecimalTruth", "nearestSize", "()J"⟩, 9), (⟨"DecimalTruth$Words", "firstThatIsNotZero", "(I)I"⟩, 2), (⟨"DecimalTruth$Words", "isMoreFrom", "(I)Z"⟩, 2), (⟨"DecimalTruth", "leastDigitsFor", "(J)I"⟩, 9), (⟨"DecimalTruth", "spellMiddleAbove", "(JLDecimalTruth$Decimal;)V"⟩, 9), (⟨"DecimalTruth", "holdsWith", "(IZ)Z"⟩, 9), (⟨"DecimalTruthModel", "fails", "(ZI)Z"⟩, 19)]
theorem lw_r1 : ∀ q ∈ lw_privs_1, lw_okq q := List.forall_mem_cons.mpr ⟨lw_p0, List.forall_mem_cons.mpr ⟨lw_p1, List.forall_mem_cons.mpr ⟨lw_p2, List.forall_mem_cons.mpr ⟨lw_p3, List.forall_mem_cons.mpr ⟨lw_p4, List.forall_mem_cons.mpr ⟨lw_p5, List.forall_mem_cons.mpr ⟨lw_p6, List.forall_mem_cons.mpr ⟨lw_p7, List.forall_mem_cons.mpr ⟨lw_p8, List.forall_mem_cons.mpr ⟨lw_p9, List.forall_mem_cons.mpr ⟨lw_p10, List.forall_mem_cons.mpr ⟨lw_p11, List.forall_mem_cons.mpr ⟨lw_p12, List.forall_mem_cons.mpr ⟨lw_p13, List.forall_mem_cons.mpr ⟨lw_p14, List.forall_mem_cons.mpr ⟨lw_p15, fun _ h => absurd h List.not_mem_nil⟩⟩⟩⟩⟩⟩⟩⟩⟩⟩⟩⟩⟩⟩⟩⟩
theorem lw_p16 : lw_okq (⟨"DecimalTruthModel", "twice", "()V"⟩, 19) := ⟨⟨by decide +kernel, by decide +kernel⟩, List.mem_of_getElem? (i := 454) (by decide +kernel), List.mem_of_getElem? (i := 533) (by decide +kernel), List.mem_of_getElem? (i := 534) (by decide +kernel)⟩
theorem lw_p17 : lw_okq (⟨"DecimalTruthModel", "half", "()V"⟩, 19) := ⟨⟨by decide +kernel, by decide +kernel⟩, List.mem_of_getElem? (i := 454) (by decide +kernel), List.mem_of_getElem? (i := 537) (by decide +kernel), List.mem_of_getElem? (i := 538) (by decide +kernel)⟩
theorem lw_p18 : lw_okq (⟨"DecimalTruthModel", "keep", "()V"⟩, 19) := ⟨⟨by decide +kernel, by decide +kernel⟩, List.mem_of_getElem? (i := 454) (by decide +kernel), List.mem_of_getElem? (i := 541) (by decide +kernel), List.mem_of_getElem? (i := 542) (by decide +kernel)⟩
theorem lw_p19 : lw_okq (⟨"DecimalTruthModel", "cut", "(J)V"⟩, 19) := ⟨⟨by decide +kernel, by decide +kernel⟩, List.mem_of_getElem? (i := 454) (by decide +kernel), List.mem_of_getElem? (i := 565) (by decide +kernel), List.mem_of_getElem? (i := 566) (by decide +kernel)⟩
theorem lw_p20 : lw_okq (⟨"DecimalTruthModel", "nothing", "()V"⟩, 19) := ⟨⟨by decide +kernel, by decide +kernel⟩, List.mem_of_getElem? (i := 454) (by decide +kernel), List.mem_of_getElem? (i := 569) (by decide +kernel), List.mem_of_getElem? (i := 570) (by decide +kernel)⟩
theorem lw_p21 : lw_okq (⟨"DecimalTruthModel", "finds", "(I)Z"⟩, 19) := ⟨⟨by decide +kernel, by decide +kernel⟩, List.mem_of_getElem? (i := 454) (by decide +kernel), List.mem_of_getElem? (i := 582) (by decide +kernel), List.mem_of_getElem? (i := 583) (by decide +kernel)⟩
theorem lw_p22 : lw_okq (⟨"DecimalTruthModel", "isNothing", "(II)Z"⟩, 19) := ⟨⟨by decide +kernel, by decide +kernel⟩, List.mem_of_getElem? (i := 454) (by decide +kernel), List.mem_of_getElem? (i := 586) (by decide +kernel), List.mem_of_getElem? (i := 587) (by decide +kernel)⟩
theorem lw_p23 : lw_okq (⟨"DecimalTruthModel", "put", "(JIIZ)Z"⟩, 19) := ⟨⟨by decide +kernel, by decide +kernel⟩, List.mem_of_getElem? (i := 454) (by decide +kernel), List.mem_of_getElem? (i := 590) (by decide +kernel), List.mem_of_getElem? (i := 591) (by decide +kernel)⟩
theorem lw_p24 : lw_okq (⟨"DecimalTruthModel", "exactly", "(JI)V"⟩, 19) := ⟨⟨by decide +kernel, by decide +kernel⟩, List.mem_of_getElem? (i := 454) (by decide +kernel), List.mem_of_getElem? (i := 601) (by decide +kernel), List.mem_of_getElem? (i := 602) (by decide +kernel)⟩
theorem lw_p25 : lw_okq (⟨"DecimalTruthModel", "compare", "([III)I"⟩, 19) := ⟨⟨by decide +kernel, by decide +kernel⟩, List.mem_of_getElem? (i := 454) (by decide +kernel), List.mem_of_getElem? (i := 606) (by decide +kernel), List.mem_of_getElem? (i := 607) (by decide +kernel)⟩
def lw_privs_2 : List (MethodName × Nat) := [(⟨"DecimalTruthModel", "twice", "()V"⟩, 19), (⟨"DecimalTruthModel", "half", "()V"⟩, 19), (⟨"DecimalTruthModel", "keep", "()V"⟩, 19), (⟨"DecimalTruthModel", "cut", "(J)V"⟩, 19), (⟨"DecimalTruthModel", "nothing", "()V"⟩, 19), (⟨"DecimalTruthModel", "finds", "(I)Z"⟩, 19), (⟨"DecimalTruthModel", "isNothing", "(II)Z"⟩, 19), (⟨"DecimalTruthModel", "put", "(JIIZ)Z"⟩, 19), (⟨"DecimalTruthModel", "exactly", "(JI)V"⟩, 19), (⟨"DecimalTruthModel", "compare", "([III)I"⟩, 19)]
theorem lw_r2 : ∀ q ∈ lw_privs_2, lw_okq q := List.forall_mem_cons.mpr ⟨lw_p16, List.forall_mem_cons.mpr ⟨lw_p17, List.forall_mem_cons.mpr ⟨lw_p18, List.forall_mem_cons.mpr ⟨lw_p19, List.forall_mem_cons.mpr ⟨lw_p20, List.forall_mem_cons.mpr ⟨lw_p21, List.forall_mem_cons.mpr ⟨lw_p22, List.forall_mem_cons.mpr ⟨lw_p23, List.forall_mem_cons.mpr ⟨lw_p24, List.forall_mem_cons.mpr ⟨lw_p25, fun _ h => absurd h List.not_mem_nil⟩⟩⟩⟩⟩⟩⟩⟩⟩⟩
def lw_privs : List (MethodName × Nat) := lw_privs_1 ++ (lw_privs_2)
def lw_tbl : List Cond := k2_sels lw_privs ++ tables_1
theorem lw_privs_ok : ∀ q ∈ lw_privs, lw_okq q := by
  show ∀ q ∈ lw_privs_1 ++ (lw_privs_2), lw_okq q
  exact List.forall_mem_append.mpr ⟨lw_r1, lw_r2⟩
-- ===== end of PART A; then your names; then what follows =====
end
section
/-! names of the classes, fields, methods; the tables' words in two lists -/
def isN : Cond → Bool
  | .fieldLinkNest _ _ _ _ _ _ => true
  | .methodLinkNest _ _ _ _ => true
  | _ => false
def al : List Cond := lw_tbl.filter goodWord
def nl : List Cond := lw_tbl.filter isN
theorem wl {i : Nat} {w : Cond} (h : tables_1[i]? = some w) (hg : goodWord w = true) : w ∈ al := List.mem_filter.mpr ⟨List.mem_append_right _ (List.mem_of_getElem? h), hg⟩
theorem wn {i : Nat} {w : Cond} (h : tables_1[i]? = some w) (hg : isN w = true) : w ∈ nl := List.mem_filter.mpr ⟨List.mem_append_right _ (List.mem_of_getElem? h), hg⟩
theorem wp {i : Nat} {q : MethodName × Nat} (h : lw_privs[i]? = some q) : Cond.selects q.1.cls q.1 q.1 ∈ al := List.mem_filter.mpr ⟨List.mem_append_left _ (List.mem_map.mpr ⟨q, List.mem_of_getElem? h, rfl⟩), rfl⟩
abbrev RD : String := "DecimalTruth$Decimal"
abbrev RG : String := "DecimalTruth$Groups"
abbrev RW : String := "DecimalTruth$Words"
abbrev RT : String := "DecimalTruth"
abbrev RM : String := "DecimalTruthModel"
abbrev RL : String := "DecimalTruthLaw"
def TF0 : u_T := fun k => match k with
  | 0 => ("DecimalTruth$Decimal", "digits", "[I", true)
  | 1 => ("DecimalTruth$Decimal", "length", "I", false)
  | _ => ("DecimalTruth$Decimal", "place", "I", false)
def ty0_ : Nat → FieldType := fun k => match k with
  | 0 => .array .int
  | 1 => .int
  | _ => .int
theorem tn_0 : ∀ a, a < 3 → ∀ b, b < 3 → a ≠ b → (TF0 a).2.1 ≠ (TF0 b).2.1 := by decide +kernel
theorem tt_0 : ∀ k, k < 3 → parseFieldDescriptor (TF0 k).2.2.1 = some (ty0_ k) := by decide +kernel
theorem tu_0 : ∀ w ∈ u_ws "DecimalTruth$Decimal" TF0 3, w ∈ al := by
  have h : (u_ws "DecimalTruth$Decimal" TF0 3).all (fun w => decide (w ∈ tables_1) && goodWord w) = true := by decide +kernel
  intro w hw
  have h2 := List.all_eq_true.mp h w hw
  rw [Bool.and_eq_true, decide_eq_true_iff] at h2
  exact List.mem_filter.mpr ⟨List.mem_append_right _ h2.1, h2.2⟩
def TF1 : u_T := fun k => match k with
  | 0 => ("DecimalTruth$Groups", "rows", "[J", true)
  | 1 => ("DecimalTruth$Groups", "first", "I", false)
  | _ => ("DecimalTruth$Groups", "end", "I", false)
def ty1_ : Nat → FieldType := fun k => match k with
  | 0 => .array .long
  | 1 => .int
  | _ => .int
theorem tn_1 : ∀ a, a < 3 → ∀ b, b < 3 → a ≠ b → (TF1 a).2.1 ≠ (TF1 b).2.1 := by decide +kernel
theorem tt_1 : ∀ k, k < 3 → parseFieldDescriptor (TF1 k).2.2.1 = some (ty1_ k) := by decide +kernel
theorem tu_1 : ∀ w ∈ u_ws "DecimalTruth$Groups" TF1 3, w ∈ al := by
  have h : (u_ws "DecimalTruth$Groups" TF1 3).all (fun w => decide (w ∈ tables_1) && goodWord w) = true := by decide +kernel
  intro w hw
  have h2 := List.all_eq_true.mp h w hw
  rw [Bool.and_eq_true, decide_eq_true_iff] at h2
  exact List.mem_filter.mpr ⟨List.mem_append_right _ h2.1, h2.2⟩
def TF2 : u_T := fun k => match k with
  | 0 => ("DecimalTruth$Words", "rows", "[J", true)
  | _ => ("DecimalTruth$Words", "hasMore", "Z", false)
def ty2_ : Nat → FieldType := fun k => match k with
  | 0 => .array .long
  | _ => .boolean
theorem tn_2 : ∀ a, a < 2 → ∀ b, b < 2 → a ≠ b → (TF2 a).2.1 ≠ (TF2 b).2.1 := by decide +kernel
theorem tt_2 : ∀ k, k < 2 → parseFieldDescriptor (TF2 k).2.2.1 = some (ty2_ k) := by decide +kernel
theorem tu_2 : ∀ w ∈ u_ws "DecimalTruth$Words" TF2 2, w ∈ al := by
  have h : (u_ws "DecimalTruth$Words" TF2 2).all (fun w => decide (w ∈ tables_1) && goodWord w) = true := by decide +kernel
  intro w hw
  have h2 := List.all_eq_true.mp h w hw
  rw [Bool.and_eq_true, decide_eq_true_iff] at h2
  exact List.mem_filter.mpr ⟨List.mem_append_right _ h2.1, h2.2⟩
def TF3 : u_T := fun k => match k with
  | 0 => ("DecimalTruth", "kept", "LDecimalTruth$Decimal;", true)
  | 1 => ("DecimalTruth", "minus", "Z", false)
  | 2 => ("DecimalTruth", "zerosInMind", "I", false)
  | 3 => ("DecimalTruth", "point", "I", false)
  | 4 => ("DecimalTruth", "groups", "LDecimalTruth$Groups;", true)
  | 5 => ("DecimalTruth", "words", "LDecimalTruth$Words;", true)
  | 6 => ("DecimalTruth", "trial", "LDecimalTruth$Decimal;", true)
  | 7 => ("DecimalTruth", "low", "LDecimalTruth$Decimal;", true)
  | _ => ("DecimalTruth", "high", "LDecimalTruth$Decimal;", true)
def ty3_ : Nat → FieldType := fun k => match k with
  | 0 => .object "DecimalTruth$Decimal"
  | 1 => .boolean
  | 2 => .int
  | 3 => .int
  | 4 => .object "DecimalTruth$Groups"
  | 5 => .object "DecimalTruth$Words"
  | 6 => .object "DecimalTruth$Decimal"
  | 7 => .object "DecimalTruth$Decimal"
  | _ => .object "DecimalTruth$Decimal"
theorem tn_3 : ∀ a, a < 9 → ∀ b, b < 9 → a ≠ b → (TF3 a).2.1 ≠ (TF3 b).2.1 := by decide +kernel
theorem tt_3 : ∀ k, k < 9 → parseFieldDescriptor (TF3 k).2.2.1 = some (ty3_ k) := by decide +kernel
theorem tu_3 : ∀ w ∈ u_ws "DecimalTruth" TF3 9, w ∈ al := by
  have h : (u_ws "DecimalTruth" TF3 9).all (fun w => decide (w ∈ tables_1) && goodWord w) = true := by decide +kernel
  intro w hw
  have h2 := List.all_eq_true.mp h w hw
  rw [Bool.and_eq_true, decide_eq_true_iff] at h2
  exact List.mem_filter.mpr ⟨List.mem_append_right _ h2.1, h2.2⟩
def TF4 : u_T := fun k => match k with
  | 0 => ("DecimalTruthModel", "err", "I", false)
  | 1 => ("DecimalTruthModel", "minus", "Z", false)
  | 2 => ("DecimalTruthModel", "digit", "[I", true)
  | 3 => ("DecimalTruthModel", "digits", "I", false)
  | 4 => ("DecimalTruthModel", "place", "I", false)
  | 5 => ("DecimalTruthModel", "zeros", "I", false)
  | 6 => ("DecimalTruthModel", "behind", "I", false)
  | 7 => ("DecimalTruthModel", "row", "[I", true)
  | 8 => ("DecimalTruthModel", "many", "I", false)
  | 9 => ("DecimalTruthModel", "fraction", "I", false)
  | 10 => ("DecimalTruthModel", "found", "J", false)
  | 11 => ("DecimalTruthModel", "bit", "[I", true)
  | 12 => ("DecimalTruthModel", "was", "[I", true)
  | 13 => ("DecimalTruthModel", "low", "[I", true)
  | 14 => ("DecimalTruthModel", "high", "[I", true)
  | 15 => ("DecimalTruthModel", "lows", "I", false)
  | 16 => ("DecimalTruthModel", "lowPlace", "I", false)
  | 17 => ("DecimalTruthModel", "highs", "I", false)
  | _ => ("DecimalTruthModel", "highPlace", "I", false)
def ty4_ : Nat → FieldType := fun k => match k with
  | 0 => .int
  | 1 => .boolean
  | 2 => .array .int
  | 3 => .int
  | 4 => .int
  | 5 => .int
  | 6 => .int
  | 7 => .array .int
  | 8 => .int
  | 9 => .int
  | 10 => .long
  | 11 => .array .int
  | 12 => .array .int
  | 13 => .array .int
  | 14 => .array .int
  | 15 => .int
  | 16 => .int
  | 17 => .int
  | _ => .int
theorem tn_4 : ∀ a, a < 19 → ∀ b, b < 19 → a ≠ b → (TF4 a).2.1 ≠ (TF4 b).2.1 := by decide +kernel
theorem tt_4 : ∀ k, k < 19 → parseFieldDescriptor (TF4 k).2.2.1 = some (ty4_ k) := by decide +kernel
theorem tu_4 : ∀ w ∈ u_ws "DecimalTruthModel" TF4 19, w ∈ al := by
  have h : (u_ws "DecimalTruthModel" TF4 19).all (fun w => decide (w ∈ tables_1) && goodWord w) = true := by decide +kernel
  intro w hw
  have h2 := List.all_eq_true.mp h w hw
  rw [Bool.and_eq_true, decide_eq_true_iff] at h2
  exact List.mem_filter.mpr ⟨List.mem_append_right _ h2.1, h2.2⟩
abbrev clz : List vw_C := [("DecimalTruth$Decimal", TF0, 3), ("DecimalTruth$Groups", TF1, 3), ("DecimalTruth$Words", TF2, 2), ("DecimalTruth", TF3, 9), ("DecimalTruthModel", TF4, 19)]
abbrev kb_Tru_init : ByteArray := prog_1_method_1_code
abbrev ky_Tru_init : MethodName := ⟨"DecimalTruth", "<init>", "()V"⟩
theorem cd_Tru_init : Cond.code ky_Tru_init kb_Tru_init 1 none ∈ al := wl (i := 21) rfl rfl
abbrev kb_Tru_set : ByteArray := prog_1_method_2_code
abbrev ky_Tru_set : MethodName := ⟨"DecimalTruth", "set", "(J)I"⟩
theorem cd_Tru_set : Cond.code ky_Tru_set kb_Tru_set 5 (some .int) ∈ al := wl (i := 116) rfl rfl
abbrev kb_Tru_digit : ByteArray := prog_1_method_3_code
abbrev ky_Tru_digit : MethodName := ⟨"DecimalTruth", "digit", "(I)I"⟩
theorem cd_Tru_digit : Cond.code ky_Tru_digit kb_Tru_digit 2 (some .int) ∈ al := wl (i := 254) rfl rfl
abbrev kb_Tru_clear : ByteArray := prog_1_method_4_code
abbrev ky_Tru_clear : MethodName := ⟨"DecimalTruth", "clear", "(ZI)V"⟩
theorem cd_Tru_clear : Cond.code ky_Tru_clear kb_Tru_clear 3 none ∈ al := wl (i := 287) rfl rfl
abbrev kb_Tru_round : ByteArray := prog_1_method_5_code
abbrev ky_Tru_round : MethodName := ⟨"DecimalTruth", "round", "(I)I"⟩
theorem cd_Tru_round : Cond.code ky_Tru_round kb_Tru_round 2 (some .int) ∈ al := wl (i := 299) rfl rfl
abbrev kb_Tru_places : ByteArray := prog_1_method_6_code
abbrev ky_Tru_places : MethodName := ⟨"DecimalTruth", "places", "(I)I"⟩
theorem cd_Tru_places : Cond.code ky_Tru_places kb_Tru_places 2 (some .int) ∈ al := wl (i := 328) rfl rfl
abbrev kb_Tru_nearest : ByteArray := prog_1_method_7_code
abbrev ky_Tru_nearest : MethodName := ⟨"DecimalTruth", "nearest", "()J"⟩
theorem cd_Tru_nearest : Cond.code ky_Tru_nearest kb_Tru_nearest 3 (some .long) ∈ al := wl (i := 337) rfl rfl
abbrev kb_Tru_enough : ByteArray := prog_1_method_8_code
abbrev ky_Tru_enough : MethodName := ⟨"DecimalTruth", "enough", "()I"⟩
set_option maxRecDepth 10000 in
theorem cd_Tru_enough : Cond.code ky_Tru_enough kb_Tru_enough 4 (some .int) ∈ al := wl (i := 406) rfl rfl
abbrev kb_Tru_look : ByteArray := prog_1_method_9_code
abbrev ky_Tru_look : MethodName := ⟨"DecimalTruth", "look", "(I)I"⟩
set_option maxRecDepth 10000 in
theorem cd_Tru_look : Cond.code ky_Tru_look kb_Tru_look 2 (some .int) ∈ al := wl (i := 443) rfl rfl
abbrev kb_Tru_count : ByteArray := prog_1_method_10_code
abbrev ky_Tru_count : MethodName := ⟨"DecimalTruth", "count", "(I)I"⟩
set_option maxRecDepth 10000 in
theorem cd_Tru_count : Cond.code ky_Tru_count kb_Tru_count 2 (some .int) ∈ al := wl (i := 451) rfl rfl
abbrev kb_Tru_hasNoRoomFor : ByteArray := prog_1_method_11_code
abbrev ky_Tru_hasNoRoomFor : MethodName := ⟨"DecimalTruth", "hasNoRoomFor", "(I)Z"⟩
theorem cd_Tru_hasNoRoomFor : Cond.code ky_Tru_hasNoRoomFor kb_Tru_hasNoRoomFor 2 (some .boolean) ∈ al := wl (i := 259) rfl rfl
abbrev kb_Tru_bringDigit : ByteArray := prog_1_method_12_code
abbrev ky_Tru_bringDigit : MethodName := ⟨"DecimalTruth", "bringDigit", "(I)V"⟩
theorem cd_Tru_bringDigit : Cond.code ky_Tru_bringDigit kb_Tru_bringDigit 3 none ∈ al := wl (i := 279) rfl rfl
abbrev kb_Tru_forgetWhatCame : ByteArray := prog_1_method_13_code
abbrev ky_Tru_forgetWhatCame : MethodName := ⟨"DecimalTruth", "forgetWhatCame", "()V"⟩
theorem cd_Tru_forgetWhatCame : Cond.code ky_Tru_forgetWhatCame kb_Tru_forgetWhatCame 1 none ∈ al := wl (i := 246) rfl rfl
abbrev kb_Tru_roundToDigits : ByteArray := prog_1_method_14_code
abbrev ky_Tru_roundToDigits : MethodName := ⟨"DecimalTruth", "roundToDigits", "(I)V"⟩
theorem cd_Tru_roundToDigits : Cond.code ky_Tru_roundToDigits kb_Tru_roundToDigits 2 none ∈ al := wl (i := 304) rfl rfl
abbrev kb_Tru_nearestSize : ByteArray := prog_1_method_15_code
abbrev ky_Tru_nearestSize : MethodName := ⟨"DecimalTruth", "nearestSize", "()J"⟩
theorem cd_Tru_nearestSize : Cond.code ky_Tru_nearestSize kb_Tru_nearestSize 1 (some .long) ∈ al := wl (i := 341) rfl rfl
abbrev kb_Tru_leastDigitsFor : ByteArray := prog_1_method_16_code
abbrev ky_Tru_leastDigitsFor : MethodName := ⟨"DecimalTruth", "leastDigitsFor", "(J)I"⟩
set_option maxRecDepth 10000 in
theorem cd_Tru_leastDigitsFor : Cond.code ky_Tru_leastDigitsFor kb_Tru_leastDigitsFor 5 (some .int) ∈ al := wl (i := 410) rfl rfl
abbrev kb_Tru_holdsWith : ByteArray := prog_1_method_17_code
abbrev ky_Tru_holdsWith : MethodName := ⟨"DecimalTruth", "holdsWith", "(IZ)Z"⟩
set_option maxRecDepth 10000 in
theorem cd_Tru_holdsWith : Cond.code ky_Tru_holdsWith kb_Tru_holdsWith 5 (some .boolean) ∈ al := wl (i := 419) rfl rfl
abbrev kb_Tru_spellMiddleAbove : ByteArray := prog_1_method_18_code
abbrev ky_Tru_spellMiddleAbove : MethodName := ⟨"DecimalTruth", "spellMiddleAbove", "(JLDecimalTruth$Decimal;)V"⟩
set_option maxRecDepth 10000 in
theorem cd_Tru_spellMiddleAbove : Cond.code ky_Tru_spellMiddleAbove kb_Tru_spellMiddleAbove 4 none ∈ al := wl (i := 414) rfl rfl
abbrev kb_Tru_spell : ByteArray := prog_1_method_19_code
abbrev ky_Tru_spell : MethodName := ⟨"DecimalTruth", "spell", "(JILDecimalTruth$Decimal;)V"⟩
theorem cd_Tru_spell : Cond.code ky_Tru_spell kb_Tru_spell 5 none ∈ al := wl (i := 200) rfl rfl
abbrev kb_Tru_factorOf : ByteArray := prog_1_method_20_code
abbrev ky_Tru_factorOf : MethodName := ⟨"DecimalTruth", "factorOf", "(J)J"⟩
theorem cd_Tru_factorOf : Cond.code ky_Tru_factorOf kb_Tru_factorOf 4 (some .long) ∈ al := wl (i := 189) rfl rfl
abbrev kb_Tru_powerOf : ByteArray := prog_1_method_21_code
abbrev ky_Tru_powerOf : MethodName := ⟨"DecimalTruth", "powerOf", "(J)I"⟩
theorem cd_Tru_powerOf : Cond.code ky_Tru_powerOf kb_Tru_powerOf 3 (some .int) ∈ al := wl (i := 193) rfl rfl
abbrev kb_Mod_init : ByteArray := prog_6_method_1_code
abbrev ky_Mod_init : MethodName := ⟨"DecimalTruthModel", "<init>", "()V"⟩
set_option maxRecDepth 10000 in
theorem cd_Mod_init : Cond.code ky_Mod_init kb_Mod_init 1 none ∈ al := wl (i := 457) rfl rfl
abbrev kb_Mod_thrown : ByteArray := prog_6_method_2_code
abbrev ky_Mod_thrown : MethodName := ⟨"DecimalTruthModel", "thrown", "()I"⟩
set_option maxRecDepth 10000 in
theorem cd_Mod_thrown : Cond.code ky_Mod_thrown kb_Mod_thrown 1 (some .int) ∈ al := wl (i := 520) rfl rfl
abbrev kb_Mod_in : ByteArray := prog_6_method_3_code
abbrev ky_Mod_in : MethodName := ⟨"DecimalTruthModel", "in", "(JJJ)Z"⟩
set_option maxRecDepth 10000 in
theorem cd_Mod_in : Cond.code ky_Mod_in kb_Mod_in 6 (some .boolean) ∈ al := wl (i := 551) rfl rfl
abbrev kb_Mod_fails : ByteArray := prog_6_method_4_code
abbrev ky_Mod_fails : MethodName := ⟨"DecimalTruthModel", "fails", "(ZI)Z"⟩
set_option maxRecDepth 10000 in
theorem cd_Mod_fails : Cond.code ky_Mod_fails kb_Mod_fails 3 (some .boolean) ∈ al := wl (i := 528) rfl rfl
abbrev kb_Mod_set : ByteArray := prog_6_method_5_code
abbrev ky_Mod_set : MethodName := ⟨"DecimalTruthModel", "set", "(J)I"⟩
set_option maxRecDepth 10000 in
theorem cd_Mod_set : Cond.code ky_Mod_set kb_Mod_set 10 (some .int) ∈ al := wl (i := 524) rfl rfl
abbrev kb_Mod_twice : ByteArray := prog_6_method_6_code
abbrev ky_Mod_twice : MethodName := ⟨"DecimalTruthModel", "twice", "()V"⟩
set_option maxRecDepth 10000 in
theorem cd_Mod_twice : Cond.code ky_Mod_twice kb_Mod_twice 4 none ∈ al := wl (i := 535) rfl rfl
abbrev kb_Mod_half : ByteArray := prog_6_method_7_code
abbrev ky_Mod_half : MethodName := ⟨"DecimalTruthModel", "half", "()V"⟩
set_option maxRecDepth 10000 in
theorem cd_Mod_half : Cond.code ky_Mod_half kb_Mod_half 4 none ∈ al := wl (i := 539) rfl rfl
abbrev kb_Mod_keep : ByteArray := prog_6_method_8_code
abbrev ky_Mod_keep : MethodName := ⟨"DecimalTruthModel", "keep", "()V"⟩
set_option maxRecDepth 10000 in
theorem cd_Mod_keep : Cond.code ky_Mod_keep kb_Mod_keep 4 none ∈ al := wl (i := 543) rfl rfl
abbrev kb_Mod_digit : ByteArray := prog_6_method_9_code
abbrev ky_Mod_digit : MethodName := ⟨"DecimalTruthModel", "digit", "(I)I"⟩
set_option maxRecDepth 10000 in
theorem cd_Mod_digit : Cond.code ky_Mod_digit kb_Mod_digit 2 (some .int) ∈ al := wl (i := 547) rfl rfl
abbrev kb_Mod_clear : ByteArray := prog_6_method_10_code
abbrev ky_Mod_clear : MethodName := ⟨"DecimalTruthModel", "clear", "(ZI)V"⟩
set_option maxRecDepth 10000 in
theorem cd_Mod_clear : Cond.code ky_Mod_clear kb_Mod_clear 3 none ∈ al := wl (i := 555) rfl rfl
abbrev kb_Mod_cut : ByteArray := prog_6_method_11_code
abbrev ky_Mod_cut : MethodName := ⟨"DecimalTruthModel", "cut", "(J)V"⟩
set_option maxRecDepth 10000 in
theorem cd_Mod_cut : Cond.code ky_Mod_cut kb_Mod_cut 5 none ∈ al := wl (i := 567) rfl rfl
abbrev kb_Mod_nothing : ByteArray := prog_6_method_12_code
abbrev ky_Mod_nothing : MethodName := ⟨"DecimalTruthModel", "nothing", "()V"⟩
set_option maxRecDepth 10000 in
theorem cd_Mod_nothing : Cond.code ky_Mod_nothing kb_Mod_nothing 1 none ∈ al := wl (i := 571) rfl rfl
abbrev kb_Mod_round : ByteArray := prog_6_method_13_code
abbrev ky_Mod_round : MethodName := ⟨"DecimalTruthModel", "round", "(I)I"⟩
set_option maxRecDepth 10000 in
theorem cd_Mod_round : Cond.code ky_Mod_round kb_Mod_round 2 (some .int) ∈ al := wl (i := 561) rfl rfl
abbrev kb_Mod_places : ByteArray := prog_6_method_14_code
abbrev ky_Mod_places : MethodName := ⟨"DecimalTruthModel", "places", "(I)I"⟩
set_option maxRecDepth 10000 in
theorem cd_Mod_places : Cond.code ky_Mod_places kb_Mod_places 2 (some .int) ∈ al := wl (i := 575) rfl rfl
abbrev kb_Mod_finds : ByteArray := prog_6_method_15_code
abbrev ky_Mod_finds : MethodName := ⟨"DecimalTruthModel", "finds", "(I)Z"⟩
set_option maxRecDepth 10000 in
theorem cd_Mod_finds : Cond.code ky_Mod_finds kb_Mod_finds 13 (some .boolean) ∈ al := wl (i := 584) rfl rfl
abbrev kb_Mod_isNothing : ByteArray := prog_6_method_16_code
abbrev ky_Mod_isNothing : MethodName := ⟨"DecimalTruthModel", "isNothing", "(II)Z"⟩
set_option maxRecDepth 10000 in
theorem cd_Mod_isNothing : Cond.code ky_Mod_isNothing kb_Mod_isNothing 4 (some .boolean) ∈ al := wl (i := 588) rfl rfl
abbrev kb_Mod_put : ByteArray := prog_6_method_17_code
abbrev ky_Mod_put : MethodName := ⟨"DecimalTruthModel", "put", "(JIIZ)Z"⟩
set_option maxRecDepth 10000 in
theorem cd_Mod_put : Cond.code ky_Mod_put kb_Mod_put 12 (some .boolean) ∈ al := wl (i := 592) rfl rfl
abbrev kb_Mod_nearest : ByteArray := prog_6_method_18_code
abbrev ky_Mod_nearest : MethodName := ⟨"DecimalTruthModel", "nearest", "()J"⟩
set_option maxRecDepth 10000 in
theorem cd_Mod_nearest : Cond.code ky_Mod_nearest kb_Mod_nearest 1 (some .long) ∈ al := wl (i := 580) rfl rfl
abbrev kb_Mod_exactly : ByteArray := prog_6_method_19_code
abbrev ky_Mod_exactly : MethodName := ⟨"DecimalTruthModel", "exactly", "(JI)V"⟩
set_option maxRecDepth 10000 in
theorem cd_Mod_exactly : Cond.code ky_Mod_exactly kb_Mod_exactly 7 none ∈ al := wl (i := 603) rfl rfl
abbrev kb_Mod_compare : ByteArray := prog_6_method_20_code
abbrev ky_Mod_compare : MethodName := ⟨"DecimalTruthModel", "compare", "([III)I"⟩
set_option maxRecDepth 10000 in
theorem cd_Mod_compare : Cond.code ky_Mod_compare kb_Mod_compare 7 (some .int) ∈ al := wl (i := 608) rfl rfl
abbrev kb_Mod_enough : ByteArray := prog_6_method_21_code
abbrev ky_Mod_enough : MethodName := ⟨"DecimalTruthModel", "enough", "()I"⟩
set_option maxRecDepth 10000 in
theorem cd_Mod_enough : Cond.code ky_Mod_enough kb_Mod_enough 12 (some .int) ∈ al := wl (i := 598) rfl rfl
abbrev kb_Mod_look : ByteArray := prog_6_method_22_code
abbrev ky_Mod_look : MethodName := ⟨"DecimalTruthModel", "look", "(I)I"⟩
set_option maxRecDepth 10000 in
theorem cd_Mod_look : Cond.code ky_Mod_look kb_Mod_look 2 (some .int) ∈ al := wl (i := 612) rfl rfl
abbrev kb_Mod_count : ByteArray := prog_6_method_23_code
abbrev ky_Mod_count : MethodName := ⟨"DecimalTruthModel", "count", "(I)I"⟩
set_option maxRecDepth 10000 in
theorem cd_Mod_count : Cond.code ky_Mod_count kb_Mod_count 2 (some .int) ∈ al := wl (i := 616) rfl rfl
abbrev kb_Dec_init : ByteArray := prog_2_method_1_code
abbrev ky_Dec_init : MethodName := ⟨"DecimalTruth$Decimal", "<init>", "()V"⟩
theorem cd_Dec_init : Cond.code ky_Dec_init kb_Dec_init 1 none ∈ al := wl (i := 29) rfl rfl
abbrev kb_Dec_beZero : ByteArray := prog_2_method_2_code
abbrev ky_Dec_beZero : MethodName := ⟨"DecimalTruth$Decimal", "beZero", "()V"⟩
theorem cd_Dec_beZero : Cond.code ky_Dec_beZero kb_Dec_beZero 1 none ∈ al := wl (i := 292) rfl rfl
abbrev kb_Dec_beStartOf : ByteArray := prog_2_method_3_code
abbrev ky_Dec_beStartOf : MethodName := ⟨"DecimalTruth$Decimal", "beStartOf", "(LDecimalTruth$Decimal;I)V"⟩
set_option maxRecDepth 10000 in
theorem cd_Dec_beStartOf : Cond.code ky_Dec_beStartOf kb_Dec_beStartOf 3 none ∈ al := wl (i := 424) rfl rfl
abbrev kb_Dec_append : ByteArray := prog_2_method_4_code
abbrev ky_Dec_append : MethodName := ⟨"DecimalTruth$Decimal", "append", "(I)V"⟩
theorem cd_Dec_append : Cond.code ky_Dec_append kb_Dec_append 2 none ∈ al := wl (i := 238) rfl rfl
abbrev kb_Dec_cutBehind : ByteArray := prog_2_method_5_code
abbrev ky_Dec_cutBehind : MethodName := ⟨"DecimalTruth$Decimal", "cutBehind", "(I)V"⟩
theorem cd_Dec_cutBehind : Cond.code ky_Dec_cutBehind kb_Dec_cutBehind 3 none ∈ al := wl (i := 308) rfl rfl
abbrev kb_Dec_goesUpBehind : ByteArray := prog_2_method_6_code
abbrev ky_Dec_goesUpBehind : MethodName := ⟨"DecimalTruth$Decimal", "goesUpBehind", "(I)Z"⟩
theorem cd_Dec_goesUpBehind : Cond.code ky_Dec_goesUpBehind kb_Dec_goesUpBehind 4 (some .boolean) ∈ al := wl (i := 313) rfl rfl
abbrev kb_Dec_settle : ByteArray := prog_2_method_7_code
abbrev ky_Dec_settle : MethodName := ⟨"DecimalTruth$Decimal", "settle", "(Z)V"⟩
theorem cd_Dec_settle : Cond.code ky_Dec_settle kb_Dec_settle 2 none ∈ al := wl (i := 317) rfl rfl
abbrev kb_Dec_goUp : ByteArray := prog_2_method_8_code
abbrev ky_Dec_goUp : MethodName := ⟨"DecimalTruth$Decimal", "goUp", "()V"⟩
theorem cd_Dec_goUp : Cond.code ky_Dec_goUp kb_Dec_goUp 1 none ∈ al := wl (i := 321) rfl rfl
abbrev kb_Dec_dropZerosAtEnd : ByteArray := prog_2_method_9_code
abbrev ky_Dec_dropZerosAtEnd : MethodName := ⟨"DecimalTruth$Decimal", "dropZerosAtEnd", "()V"⟩
theorem cd_Dec_dropZerosAtEnd : Cond.code ky_Dec_dropZerosAtEnd kb_Dec_dropZerosAtEnd 1 none ∈ al := wl (i := 242) rfl rfl
abbrev kb_Dec_against : ByteArray := prog_2_method_10_code
abbrev ky_Dec_against : MethodName := ⟨"DecimalTruth$Decimal", "against", "(LDecimalTruth$Decimal;)I"⟩
set_option maxRecDepth 10000 in
theorem cd_Dec_against : Cond.code ky_Dec_against kb_Dec_against 4 (some .int) ∈ al := wl (i := 432) rfl rfl
abbrev kb_Dec_read : ByteArray := prog_2_method_11_code
abbrev ky_Dec_read : MethodName := ⟨"DecimalTruth$Decimal", "read", "(LDecimalTruth$Groups;)V"⟩
theorem cd_Dec_read : Cond.code ky_Dec_read kb_Dec_read 3 none ∈ al := wl (i := 224) rfl rfl
abbrev kb_Dec_readGroup : ByteArray := prog_2_method_12_code
abbrev ky_Dec_readGroup : MethodName := ⟨"DecimalTruth$Decimal", "readGroup", "(J)V"⟩
theorem cd_Dec_readGroup : Cond.code ky_Dec_readGroup kb_Dec_readGroup 6 none ∈ al := wl (i := 232) rfl rfl
abbrev kb_Grp_init : ByteArray := prog_3_method_1_code
abbrev ky_Grp_init : MethodName := ⟨"DecimalTruth$Groups", "<init>", "()V"⟩
theorem cd_Grp_init : Cond.code ky_Grp_init kb_Grp_init 1 none ∈ al := wl (i := 52) rfl rfl
abbrev kb_Grp_placeOfFirst : ByteArray := prog_3_method_2_code
abbrev ky_Grp_placeOfFirst : MethodName := ⟨"DecimalTruth$Groups", "placeOfFirst", "()I"⟩
theorem cd_Grp_placeOfFirst : Cond.code ky_Grp_placeOfFirst kb_Grp_placeOfFirst 1 (some .int) ∈ al := wl (i := 228) rfl rfl
abbrev kb_Grp_hasSomethingBehindPoint : ByteArray := prog_3_method_3_code
abbrev ky_Grp_hasSomethingBehindPoint : MethodName := ⟨"DecimalTruth$Groups", "hasSomethingBehindPoint", "()Z"⟩
set_option maxRecDepth 10000 in
theorem cd_Grp_hasSomethingBehindPoint : Cond.code ky_Grp_hasSomethingBehindPoint kb_Grp_hasSomethingBehindPoint 1 (some .boolean) ∈ al := wl (i := 362) rfl rfl
abbrev kb_Grp_beProduct : ByteArray := prog_3_method_4_code
abbrev ky_Grp_beProduct : MethodName := ⟨"DecimalTruth$Groups", "beProduct", "(JI)V"⟩
theorem cd_Grp_beProduct : Cond.code ky_Grp_beProduct kb_Grp_beProduct 5 none ∈ al := wl (i := 204) rfl rfl
abbrev kb_Grp_load : ByteArray := prog_3_method_5_code
abbrev ky_Grp_load : MethodName := ⟨"DecimalTruth$Groups", "load", "(LDecimalTruth$Decimal;)V"⟩
theorem cd_Grp_load : Cond.code ky_Grp_load kb_Grp_load 5 none ∈ al := wl (i := 345) rfl rfl
abbrev kb_Grp_multiply : ByteArray := prog_3_method_6_code
abbrev ky_Grp_multiply : MethodName := ⟨"DecimalTruth$Groups", "multiply", "(II)J"⟩
theorem cd_Grp_multiply : Cond.code ky_Grp_multiply kb_Grp_multiply 8 (some .long) ∈ al := wl (i := 215) rfl rfl
abbrev kb_Grp_divide : ByteArray := prog_3_method_7_code
abbrev ky_Grp_divide : MethodName := ⟨"DecimalTruth$Groups", "divide", "(II)J"⟩
theorem cd_Grp_divide : Cond.code ky_Grp_divide kb_Grp_divide 10 (some .long) ∈ al := wl (i := 219) rfl rfl
abbrev kb_Wrd_init : ByteArray := prog_4_method_1_code
abbrev ky_Wrd_init : MethodName := ⟨"DecimalTruth$Words", "<init>", "()V"⟩
theorem cd_Wrd_init : Cond.code ky_Wrd_init kb_Wrd_init 1 none ∈ al := wl (i := 72) rfl rfl
abbrev kb_Wrd_load : ByteArray := prog_4_method_2_code
abbrev ky_Wrd_load : MethodName := ⟨"DecimalTruth$Words", "load", "(LDecimalTruth$Groups;)V"⟩
set_option maxRecDepth 10000 in
theorem cd_Wrd_load : Cond.code ky_Wrd_load kb_Wrd_load 4 none ∈ al := wl (i := 351) rfl rfl
abbrev kb_Wrd_roundedSize : ByteArray := prog_4_method_3_code
abbrev ky_Wrd_roundedSize : MethodName := ⟨"DecimalTruth$Words", "roundedSize", "()J"⟩
set_option maxRecDepth 10000 in
theorem cd_Wrd_roundedSize : Cond.code ky_Wrd_roundedSize kb_Wrd_roundedSize 9 (some .long) ∈ al := wl (i := 366) rfl rfl
abbrev kb_Wrd_roundHead : ByteArray := prog_4_method_4_code
abbrev ky_Wrd_roundHead : MethodName := ⟨"DecimalTruth$Words", "roundHead", "(JZI)J"⟩
set_option maxRecDepth 10000 in
theorem cd_Wrd_roundHead : Cond.code ky_Wrd_roundHead kb_Wrd_roundHead 13 (some .long) ∈ al := wl (i := 381) rfl rfl
abbrev kb_Wrd_firstThatIsNotZero : ByteArray := prog_4_method_5_code
abbrev ky_Wrd_firstThatIsNotZero : MethodName := ⟨"DecimalTruth$Words", "firstThatIsNotZero", "(I)I"⟩
set_option maxRecDepth 10000 in
theorem cd_Wrd_firstThatIsNotZero : Cond.code ky_Wrd_firstThatIsNotZero kb_Wrd_firstThatIsNotZero 3 (some .int) ∈ al := wl (i := 357) rfl rfl
abbrev kb_Wrd_isMoreFrom : ByteArray := prog_4_method_6_code
abbrev ky_Wrd_isMoreFrom : MethodName := ⟨"DecimalTruth$Words", "isMoreFrom", "(I)Z"⟩
set_option maxRecDepth 10000 in
theorem cd_Wrd_isMoreFrom : Cond.code ky_Wrd_isMoreFrom kb_Wrd_isMoreFrom 4 (some .boolean) ∈ al := wl (i := 378) rfl rfl
abbrev kb_Law_set : ByteArray := method_3_code
abbrev ky_Law_set : MethodName := ⟨"DecimalTruthLaw", "set", "(LDecimalTruth;J[J)I"⟩
abbrev kb_Law_digit : ByteArray := method_4_code
abbrev ky_Law_digit : MethodName := ⟨"DecimalTruthLaw", "digit", "(LDecimalTruth;I[J)I"⟩
abbrev kb_Law_clear : ByteArray := method_5_code
abbrev ky_Law_clear : MethodName := ⟨"DecimalTruthLaw", "clear", "(LDecimalTruth;ZI)I"⟩
abbrev kb_Law_round : ByteArray := method_6_code
abbrev ky_Law_round : MethodName := ⟨"DecimalTruthLaw", "round", "(LDecimalTruth;I[J)I"⟩
abbrev kb_Law_places : ByteArray := method_7_code
abbrev ky_Law_places : MethodName := ⟨"DecimalTruthLaw", "places", "(LDecimalTruth;I[J)I"⟩
abbrev kb_Law_nearest : ByteArray := method_8_code
abbrev ky_Law_nearest : MethodName := ⟨"DecimalTruthLaw", "nearest", "(LDecimalTruth;[J)I"⟩
abbrev kb_Law_enough : ByteArray := method_9_code
abbrev ky_Law_enough : MethodName := ⟨"DecimalTruthLaw", "enough", "(LDecimalTruth;[J)I"⟩
abbrev kb_Law_look : ByteArray := method_10_code
abbrev ky_Law_look : MethodName := ⟨"DecimalTruthLaw", "look", "(LDecimalTruth;I[J)I"⟩
abbrev kb_Law_count : ByteArray := method_11_code
abbrev ky_Law_count : MethodName := ⟨"DecimalTruthLaw", "count", "(LDecimalTruth;I[J)I"⟩
abbrev kb_JInt_compare : ByteArray := prog_11_method_40_code
abbrev ky_JInt_compare : MethodName := ⟨"java/lang/Integer", "compare", "(II)I"⟩
set_option maxRecDepth 10000 in
theorem cd_JInt_compare : Cond.code ky_JInt_compare kb_JInt_compare 2 (some .int) ∈ al := wl (i := 435) rfl rfl
abbrev kb_JInt_numberOfLeadingZeros : ByteArray := prog_11_method_47_code
abbrev ky_JInt_numberOfLeadingZeros : MethodName := ⟨"java/lang/Integer", "numberOfLeadingZeros", "(I)I"⟩
set_option maxRecDepth 10000 in
theorem cd_JInt_numberOfLeadingZeros : Cond.code ky_JInt_numberOfLeadingZeros kb_JInt_numberOfLeadingZeros 2 (some .int) ∈ al := wl (i := 372) rfl rfl
abbrev kb_JLon_numberOfLeadingZeros : ByteArray := prog_12_method_48_code
abbrev ky_JLon_numberOfLeadingZeros : MethodName := ⟨"java/lang/Long", "numberOfLeadingZeros", "(J)I"⟩
set_option maxRecDepth 10000 in
theorem cd_JLon_numberOfLeadingZeros : Cond.code ky_JLon_numberOfLeadingZeros kb_JLon_numberOfLeadingZeros 3 (some .int) ∈ al := wl (i := 369) rfl rfl
abbrev kb_JArr_fill : ByteArray := prog_18_method_101_code
abbrev ky_JArr_fill : MethodName := ⟨"java/util/Arrays", "fill", "([JJ)V"⟩
theorem cd_JArr_fill : Cond.code ky_JArr_fill kb_JArr_fill 5 none ∈ al := wl (i := 207) rfl rfl
end
section
/-! ints and longs of the machine as whole numbers -/
def zi (z : Int) : Int32 := Int32.ofInt z
def zj (z : Int) : Int64 := Int64.ofInt z
abbrev ri (z : Int) : Prop := -2147483648 ≤ z ∧ z ≤ 2147483647
abbrev rj (z : Int) : Prop := -9223372036854775808 ≤ z ∧ z ≤ 9223372036854775807
def b2 (b : Bool) : Int := cond b 1 0
theorem zi_toInt {z : Int} (h : ri z) : (zi z).toInt = z := Int32.toInt_ofInt_of_le (by have := h.1; omega) (by have := h.2; omega)
theorem zj_toInt {z : Int} (h : rj z) : (zj z).toInt = z := Int64.toInt_ofInt_of_le (by have := h.1; omega) (by have := h.2; omega)
theorem zi_of (x : Int32) : x = zi x.toInt := (Int32.ofInt_toInt x).symm
theorem zj_of (x : Int64) : x = zj x.toInt := (Int64.ofInt_toInt x).symm
theorem zi_ri (x : Int32) : ri x.toInt := ⟨by have := x.le_toInt; omega, by have := x.toInt_lt; omega⟩
theorem zj_rj (x : Int64) : rj x.toInt := ⟨by have := x.le_toInt; omega, by have := x.toInt_lt; omega⟩
theorem zi_add (a b : Int) : zi a + zi b = zi (a + b) := (Int32.ofInt_add a b).symm
theorem zi_sub (a b : Int) : zi a - zi b = zi (a - b) := (Int32.ofInt_sub a b).symm
theorem zi_mul (a b : Int) : zi a * zi b = zi (a * b) := (Int32.ofInt_mul a b).symm
theorem zi_neg (a : Int) : -zi a = zi (-a) := (Int32.ofInt_neg a).symm
theorem zj_add (a b : Int) : zj a + zj b = zj (a + b) := (Int64.ofInt_add a b).symm
theorem zj_sub (a b : Int) : zj a - zj b = zj (a - b) := (Int64.ofInt_sub a b).symm
theorem zj_mul (a b : Int) : zj a * zj b = zj (a * b) := (Int64.ofInt_mul a b).symm
theorem zj_neg (a : Int) : -zj a = zj (-a) := (Int64.ofInt_neg a).symm
theorem zi_lt {a b : Int} (ha : ri a) (hb : ri b) : zi a < zi b ↔ a < b := by rw [Int32.lt_iff_toInt_lt, zi_toInt ha, zi_toInt hb]
theorem zi_le {a b : Int} (ha : ri a) (hb : ri b) : zi a ≤ zi b ↔ a ≤ b := by rw [Int32.le_iff_toInt_le, zi_toInt ha, zi_toInt hb]
theorem zi_eq {a b : Int} (ha : ri a) (hb : ri b) : zi a = zi b ↔ a = b := by rw [← Int32.toInt_inj, zi_toInt ha, zi_toInt hb]
theorem zj_lt {a b : Int} (ha : rj a) (hb : rj b) : zj a < zj b ↔ a < b := by rw [Int64.lt_iff_toInt_lt, zj_toInt ha, zj_toInt hb]
theorem zj_le {a b : Int} (ha : rj a) (hb : rj b) : zj a ≤ zj b ↔ a ≤ b := by rw [Int64.le_iff_toInt_le, zj_toInt ha, zj_toInt hb]
theorem zj_eq {a b : Int} (ha : rj a) (hb : rj b) : zj a = zj b ↔ a = b := by rw [← Int64.toInt_inj, zj_toInt ha, zj_toInt hb]
theorem zi_0 : zi 0 = 0 := by decide
theorem zj_0 : zj 0 = 0 := by decide
theorem zi_div {a b : Int} (ha : 0 ≤ a) (ha2 : a ≤ 2147483647) (hb : 0 < b) (hb2 : b ≤ 2147483647) : zi a / zi b = zi (a / b) := by
  apply Int32.toInt.inj
  rw [Int32.toInt_div_of_ne_right, zi_toInt ⟨by omega, ha2⟩, zi_toInt ⟨by omega, hb2⟩, Int.tdiv_eq_ediv_of_nonneg ha, zi_toInt]
  · exact ⟨by have := Int.ediv_nonneg ha (Int.le_of_lt hb); omega, by have := Int.ediv_le_self b ha; omega⟩
  · intro h
    have h2 : (zi b).toInt = (-1 : Int32).toInt := by rw [h]
    rw [zi_toInt ⟨by omega, hb2⟩] at h2
    have h3 : (-1 : Int32).toInt = -1 := by decide
    omega
theorem zj_div {a b : Int} (ha : 0 ≤ a) (ha2 : a ≤ 9223372036854775807) (hb : 0 < b) (hb2 : b ≤ 9223372036854775807) : zj a / zj b = zj (a / b) := by
  apply Int64.toInt.inj
  rw [Int64.toInt_div_of_ne_right, zj_toInt ⟨by omega, ha2⟩, zj_toInt ⟨by omega, hb2⟩, Int.tdiv_eq_ediv_of_nonneg ha, zj_toInt]
  · exact ⟨by have := Int.ediv_nonneg ha (Int.le_of_lt hb); omega, by have := Int.ediv_le_self b ha; omega⟩
  · intro h
    have h2 : (zj b).toInt = (-1 : Int64).toInt := by rw [h]
    rw [zj_toInt ⟨by omega, hb2⟩] at h2
    have h3 : (-1 : Int64).toInt = -1 := by decide
    omega
theorem zi_rem {a b : Int} (ha : 0 ≤ a) (ha2 : a ≤ 2147483647) (hb : 0 < b) (hb2 : b ≤ 2147483647) : zi a - zi a / zi b * zi b = zi (a % b) := by
  rw [zi_div ha ha2 hb hb2, zi_mul, zi_sub, Int.emod_def, Int.mul_comm]
theorem zj_rem {a b : Int} (ha : 0 ≤ a) (ha2 : a ≤ 9223372036854775807) (hb : 0 < b) (hb2 : b ≤ 9223372036854775807) : zj a - zj a / zj b * zj b = zj (a % b) := by
  rw [zj_div ha ha2 hb hb2, zj_mul, zj_sub, Int.emod_def, Int.mul_comm]
theorem zi_nz {b : Int} (hb : ri b) (h : b ≠ 0) : ¬ zi b = 0 := by rw [← zi_0, zi_eq hb (by omega)]; exact h
theorem zj_nz {b : Int} (hb : rj b) (h : b ≠ 0) : ¬ zj b = 0 := by rw [← zj_0, zj_eq hb (by omega)]; exact h
theorem zi_nat {k : Nat} (h : k ≤ 2147483647) : (zi (k : Int)).toNatClampNeg = k := by
  show (Int32.ofInt (k : Int)).toNatClampNeg = k
  rw [Int32.toNatClampNeg_ofInt_of_le (by omega) (by omega)]; omega
theorem zi_in {k n : Nat} (hk : k < n) (hn : n ≤ 2147483647) : vp_in (zi (k : Int)) n := by
  intro h
  rcases h with h | h
  · rw [← zi_0, zi_lt ⟨by omega, by omega⟩ (by omega)] at h; omega
  · rw [zi_nat (by omega)] at h; omega
theorem zi_zj {a : Int} (h : ri a) : (zi a).toInt64 = zj a := by
  apply Int64.toInt.inj
  rw [Int32.toInt_toInt64, zi_toInt h, zj_toInt ⟨by omega, by omega⟩]
theorem zj_zi (a : Int) : (zj a).toInt32 = zi a := Int64.toInt32_ofInt
theorem zi_ofNat (k : Nat) : Int32.ofNat k = zi (k : Int) := Int32.ofInt_eq_ofNat.symm
theorem zj_ofNat (k : Nat) : Int64.ofNat k = zj (k : Int) := Int64.ofInt_eq_ofNat.symm
theorem zj_bv (a : Nat) : (zj (a : Int)).toBitVec = BitVec.ofNat 64 a := by
  show BitVec.ofInt 64 (a : Int) = _
  exact BitVec.ofInt_natCast 64 a
theorem zj_bve {a : Nat} {x : Int64} (h : x.toBitVec.toNat = a % 2 ^ 64) : x = zj (a : Int) := by
  apply Int64.toBitVec.inj
  apply BitVec.eq_of_toNat_eq
  rw [zj_bv, BitVec.toNat_ofNat, h]
theorem zj_modn (a : Nat) : zj ((a % 2 ^ 64 : Nat) : Int) = zj (a : Int) := zj_bve (a := a) (by rw [zj_bv, BitVec.toNat_ofNat, Nat.mod_mod])
theorem zi_sh63 {k : Nat} (h : k < 64) : ((zi (k : Int)).toInt64 &&& 63).toBitVec.toNat = k := by
  rw [zi_zj ⟨by omega, by omega⟩]
  show ((zj (k : Int)).toBitVec &&& (63 : Int64).toBitVec).toNat = k
  rw [zj_bv, BitVec.toNat_and, BitVec.toNat_ofNat, show (63 : Int64).toBitVec.toNat = 2 ^ 6 - 1 by decide, Nat.and_two_pow_sub_one_eq_mod]
  omega
theorem zj_shl {a k : Nat} (h : k < 64) : zj (a : Int) <<< ((zi (k : Int)).toInt64 &&& 63) = zj ((a * 2 ^ k : Nat) : Int) := by
  apply zj_bve
  rw [Int64.toBitVec_shiftLeft, BitVec.shiftLeft_eq', BitVec.toNat_shiftLeft]
  have h1 : (((zi (k : Int)).toInt64 &&& 63).toBitVec.smod 64).toNat = k := by
    have h2 : ((zi (k : Int)).toInt64 &&& 63).toBitVec = BitVec.ofNat 64 k := by
      apply BitVec.eq_of_toNat_eq
      rw [zi_sh63 h, BitVec.toNat_ofNat]; omega
    rw [h2]
    have h3 : ∀ j : Fin 64, ((BitVec.ofNat 64 j.val).smod 64).toNat = j.val := by decide +kernel
    exact h3 ⟨k, h⟩
  rw [h1, zj_bv, BitVec.toNat_ofNat, Nat.shiftLeft_eq, Nat.mod_mul_mod]
theorem zj_ushr {a k : Nat} (ha : a < 2 ^ 64) (h : k < 64) : ((zj (a : Int)).toUInt64 >>> ((zi (k : Int)).toInt64.toUInt64 &&& Int64.toUInt64 63)).toInt64 = zj ((a / 2 ^ k : Nat) : Int) := by
  apply zj_bve
  have h1 : ((zi (k : Int)).toInt64.toUInt64 &&& Int64.toUInt64 63).toNat = k := zi_sh63 h
  show ((zj (a : Int)).toUInt64 >>> ((zi (k : Int)).toInt64.toUInt64 &&& Int64.toUInt64 63)).toNat = _
  rw [UInt64.toNat_shiftRight, h1, Nat.shiftRight_eq_div_pow, Nat.mod_eq_of_lt h]
  have h2 : (zj (a : Int)).toUInt64.toNat = a := by
    show (zj (a : Int)).toBitVec.toNat = a
    rw [zj_bv, BitVec.toNat_ofNat]; omega
  rw [h2, Nat.mod_eq_of_lt (Nat.lt_of_le_of_lt (Nat.div_le_self _ _) ha)]
theorem zj_and {a b : Nat} (hb : b ≤ 64) : zj (a : Int) &&& zj ((2 ^ b - 1 : Nat) : Int) = zj ((a % 2 ^ b : Nat) : Int) := by
  apply zj_bve
  show ((zj (a : Int)).toBitVec &&& (zj ((2 ^ b - 1 : Nat) : Int)).toBitVec).toNat = _
  have hp : 2 ^ b ≤ 2 ^ 64 := Nat.pow_le_pow_right (by decide) hb
  have hq : 0 < 2 ^ b := Nat.pow_pos (by decide)
  rw [zj_bv, zj_bv, BitVec.toNat_and, BitVec.toNat_ofNat, BitVec.toNat_ofNat, Nat.mod_eq_of_lt (a := 2 ^ b - 1) (by omega), Nat.and_two_pow_sub_one_eq_mod, Nat.mod_mod_of_dvd _ (Nat.pow_dvd_pow 2 hb), Nat.mod_eq_of_lt (a := a % 2 ^ b)]
  exact Nat.lt_of_lt_of_le (Nat.mod_lt _ hq) hp
theorem zj_or {a b k : Nat} (hb : b < 2 ^ k) (hk : a * 2 ^ k + b < 2 ^ 64) : zj ((a * 2 ^ k : Nat) : Int) ||| zj (b : Int) = zj ((a * 2 ^ k + b : Nat) : Int) := by
  apply zj_bve
  show ((zj ((a * 2 ^ k : Nat) : Int)).toBitVec ||| (zj (b : Int)).toBitVec).toNat = _
  rw [zj_bv, zj_bv, BitVec.toNat_or, BitVec.toNat_ofNat, BitVec.toNat_ofNat, Nat.mod_eq_of_lt (a := a * 2 ^ k) (by omega), Nat.mod_eq_of_lt (a := b) (by omega), Nat.mod_eq_of_lt hk, ← Nat.shiftLeft_eq, Nat.shiftLeft_add_eq_or_of_lt hb]
theorem zj_or' {a b k : Nat} (hb : b < 2 ^ k) (hk : a * 2 ^ k + b < 2 ^ 64) : zj (b : Int) ||| zj ((a * 2 ^ k : Nat) : Int) = zj ((a * 2 ^ k + b : Nat) : Int) := by
  rw [Int64.or_comm]; exact zj_or hb hk
/-- a negative long and the number of its bits -/
theorem zj_wrap (a : Int) : zj (a + 18446744073709551616) = zj a := by
  rw [← zj_add]
  have h : zj 18446744073709551616 = 0 := by decide
  rw [h, Int64.add_zero]
theorem zj_wraps (a : Int) : zj (a - 18446744073709551616) = zj a := by
  rw [← zj_wrap (a - _)]; congr 1; omega
theorem zj_cmp {a b : Int} (ha : rj a) (hb : rj b) : lg_cmp (zj a) (zj b) = zi (if b < a then 1 else if a = b then 0 else -1) := by
  unfold lg_cmp
  by_cases h1 : b < a
  · rw [if_pos h1, if_pos ((zj_lt hb ha).mpr h1)]; decide
  · rw [if_neg h1, if_neg (fun h => h1 ((zj_lt hb ha).mp h))]
    by_cases h2 : a = b
    · rw [if_pos h2, if_pos ((zj_eq ha hb).mpr h2)]; decide
    · rw [if_neg h2, if_neg (fun h => h2 ((zj_eq ha hb).mp h))]; decide
end
section
/-! the layer: one walk judgement over a bundle K, a row an instruction -/
abbrev Kx : Type := Program × Launch × Env × Room × State × MethodId × Array Value × List Frame × Method × Code × va_G × (Nat → Prop) × (State → Prop)
def V (K : Kx) (nL : Nat) (ws : va_W) (k n pc : Nat) (lv : List (Nat × Value)) (st : List Value) : Prop :=
  match K with
  | (p, l, e, R, s, m, args, below, meth, c, D, A, Q) => ∀ (H : Heap) (locs : List Loc) (ls : Array Slot), va_P D clz ws H → va_D A ws → va_S A s.heap H locs → lv_has ls nL lv → W p l e R s m args below meth c H locs k n Q (F0 m pc ls st)
def Cx (K : Kx) (cI cJ : ClassId) (cc : ByteArray) (nL : Nat) (own : String) (rm : Room) : Prop :=
  match K with
  | (p, _, _, R, s, m, args, _, _, c, D, A, _) => p.tables.exec = Jvm.exec ∧ c.code = cc ∧ c.maxLocals = nL ∧ s.vm.findClass own = some m.cls ∧ (∀ w ∈ al, w.before args s = true) ∧ va_K D clz [(cI, .int), (cJ, .long)] s ∧ (∀ q : Nat, s.heap.size ≤ q → A q) ∧ R = rm ∧ (∀ w ∈ nl, va_Nw w s)
def lk : List (Nat × Value) → Nat → Option Value
  | [], _ => none
  | (j, v) :: t, i => cond (Nat.beq j i) (some v) (lk t i)
theorem lk_mem : ∀ (lv : List (Nat × Value)) (i : Nat) (v : Value), lk lv i = some v → (i, v) ∈ lv
  | [], _, _, h => by cases h
  | (j, w) :: t, i, v, h => by
    unfold lk at h
    cases hb : Nat.beq j i with
    | true =>
      rw [hb] at h
      have h1 : w = v := Option.some.inj h
      have h2 : j = i := Nat.eq_of_beq_eq_true hb
      rw [h1, h2]
      exact List.mem_cons_self
    | false =>
      rw [hb] at h
      exact List.mem_cons_of_mem _ (lk_mem t i v h)
theorem lk_at {ls : Array Slot} {nL : Nat} {lv : List (Nat × Value)} (h : lv_has ls nL lv) {i : Nat} {v : Value} (hk : lk lv i = some v) : ls[i]? = some (.val v) := h.2.2 (i, v) (lk_mem _ _ _ hk)
abbrev ai (cI : ClassId) (a n : Nat) (f : Nat → Nat) : Nat × va_E := (a, .inl (cI, n, .inl (fun i => zi (f i : Nat))))
abbrev aj (cJ : ClassId) (a n : Nat) (f : Nat → Nat) : Nat × va_E := (a, .inl (cJ, n, .inr (.inl (fun i => zj (f i : Nat)))))
abbrev oc (a ci : Nat) (fs : List Value) : Nat × va_E := (a, .inr (ci, fs))
abbrev vi (z : Int) : Value := .int (zi z)
abbrev vj (z : Int) : Value := .long (zj z)
def un (f : Nat → Nat) (k x : Nat) : Nat → Nat := fun j => if j = k then x else f j
theorem un_i (f : Nat → Nat) (k x : Nat) : upd (fun i => zi (f i : Nat)) k (zi (x : Nat)) = fun i => zi (un f k x i : Nat) := by
  funext j; unfold upd un; by_cases h : j = k
  · rw [if_pos h, if_pos h]
  · rw [if_neg h, if_neg h]
theorem un_j (f : Nat → Nat) (k x : Nat) : vp_updL (fun i => zj (f i : Nat)) k (zj (x : Nat)) = fun i => zj (un f k x i : Nat) := by
  funext j; unfold vp_updL un; by_cases h : j = k
  · rw [if_pos h, if_pos h]
  · rw [if_neg h, if_neg h]
section Layer
variable {K : Kx} {cI cJ : ClassId} {cc : ByteArray} {nL : Nat} {own : String} {rm : Room} {ws : va_W} {k n pc : Nat} {lv : List (Nat × Value)} {st : List Value}
theorem qv_lv (ks : List Nat) {lv' : List (Nat × Value)} (hl : lv_pick lv ks = lv') (h : V K nL ws k n pc lv' st) : V K nL ws k n pc lv st := by
  obtain ⟨p, l, e, R, s, m, args, below, meth, c, D, A, Q⟩ := K
  intro H locs ls hP hD hS hl0
  exact h H locs ls hP hD hS (lv_sub hl0 ks hl)
theorem qv_ws (is : List Nat) {ws' : va_W} (hn : va_nd is = true) (hs : is.map (fun i => ws[i]?) = ws'.map some) (h : V K nL ws' k n pc lv st) : V K nL ws k n pc lv st := by
  obtain ⟨p, l, e, R, s, m, args, below, meth, c, D, A, Q⟩ := K
  intro H locs ls hP hD hS hl0
  refine h H locs ls (hP.sub is ?_) (hD.sub is hn hs) hS hl0
  have h1 : ∀ (is : List Nat) (ws' : va_W), is.map (fun i => ws[i]?) = ws'.map some → is.filterMap (fun i => ws[i]?) = ws' := by
    intro is
    induction is with
    | nil => intro ws' h; cases ws' with
      | nil => rfl
      | cons a t => cases h
    | cons i is ih => intro ws' h; cases ws' with
      | nil => cases h
      | cons a t =>
        rw [List.map_cons, List.map_cons] at h
        injection h with h1 h2
        rw [List.filterMap_cons, h1]
        show a :: List.filterMap _ is = a :: t
        rw [ih t h2]
  exact h1 is ws' hs
theorem qv_eq {ws' : va_W} {k' n' pc' : Nat} {lv' : List (Nat × Value)} {st' : List Value} (h : V K nL ws' k' n' pc' lv' st') (h1 : ws = ws') (h2 : lv = lv') (h3 : st = st') (h4 : pc = pc' := by rfl) (h5 : k = k' := by rfl) (h6 : n = n' := by rfl) : V K nL ws k n pc lv st := by
  subst h1 h2 h3 h4 h5 h6; exact h
theorem qv_wide {k' n' : Nat} (h1 : k ≤ k') (h2 : n ≤ n') (h : V K nL ws k' n' pc lv st) : V K nL ws k n pc lv st := by
  obtain ⟨p, l, e, R, s, m, args, below, meth, c, D, A, Q⟩ := K
  intro H locs ls hP hD hS hl0
  exact W.widen h1 h2 (h H locs ls hP hD hS hl0)
theorem qv_iconst (C : Cx K cI cJ cc nL own rm) {z : Int} (d : decode cc pc = .ok (.iconst z, 1)) (h : V K nL ws k n (pc + 1) lv (vi z :: st)) : V K nL ws k n pc lv st := by
  obtain ⟨p, l, e, R, s, m, args, below, meth, c, D, A, Q⟩ := K
  obtain ⟨hx, hb, hml, hown, hts, hK, hA, hR, hnw⟩ := C
  intro H locs ls hP hD hS hl
  exact lv_iconst hx hb d rfl (h H locs ls hP hD hS hl)
theorem qv_bipush (C : Cx K cI cJ cc nL own rm) {z : Int} (hz : (Int8.ofInt z).toInt32 = zi z) (d : decode cc pc = .ok (.bipush z, 2)) (h : V K nL ws k n (pc + 2) lv (vi z :: st)) : V K nL ws k n pc lv st := by
  obtain ⟨p, l, e, R, s, m, args, below, meth, c, D, A, Q⟩ := K
  obtain ⟨hx, hb, hml, hown, hts, hK, hA, hR, hnw⟩ := C
  intro H locs ls hP hD hS hl
  exact lv_bipush hx hb d hz (h H locs ls hP hD hS hl)
theorem qv_sipush (C : Cx K cI cJ cc nL own rm) {z : Int} (hz : (Int16.ofInt z).toInt32 = zi z) (d : decode cc pc = .ok (.sipush z, 3)) (h : V K nL ws k n (pc + 3) lv (vi z :: st)) : V K nL ws k n pc lv st := by
  obtain ⟨p, l, e, R, s, m, args, below, meth, c, D, A, Q⟩ := K
  obtain ⟨hx, hb, hml, hown, hts, hK, hA, hR, hnw⟩ := C
  intro H locs ls hP hD hS hl
  exact lv_sipush hx hb d hz (h H locs ls hP hD hS hl)
theorem qv_lconst (C : Cx K cI cJ cc nL own rm) {i : Fin 2} {z : Int} (hz : Int64.ofNat (i : Nat) = zj z) (d : decode cc pc = .ok (.lconst i, 1)) (h : V K nL ws k n (pc + 1) lv (vj z :: st)) : V K nL ws k n pc lv st := by
  obtain ⟨p, l, e, R, s, m, args, below, meth, c, D, A, Q⟩ := K
  obtain ⟨hx, hb, hml, hown, hts, hK, hA, hR, hnw⟩ := C
  intro H locs ls hP hD hS hl
  exact lv_lconst hx hb d hz (h H locs ls hP hD hS hl)
theorem qv_ldc (C : Cx K cI cJ cc nL own rm) {ix : Nat} {z : Int} (hw : Cond.constant own ix (zi z) ∈ al) (d : decode cc pc = .ok (.ldc ix, 2)) (h : V K nL ws k n (pc + 2) lv (vi z :: st)) : V K nL ws k n pc lv st := by
  obtain ⟨p, l, e, R, s, m, args, below, meth, c, D, A, Q⟩ := K
  obtain ⟨hx, hb, hml, hown, hts, hK, hA, hR, hnw⟩ := C
  intro H locs ls hP hD hS hl
  exact lv_ldc hx hb hown (hts _ hw) d (h H locs ls hP hD hS hl)
theorem qv_ldcw (C : Cx K cI cJ cc nL own rm) {ix : Nat} {z : Int} (hw : Cond.constant own ix (zi z) ∈ al) (d : decode cc pc = .ok (.ldc_w ix, 3)) (h : V K nL ws k n (pc + 3) lv (vi z :: st)) : V K nL ws k n pc lv st := by
  obtain ⟨p, l, e, R, s, m, args, below, meth, c, D, A, Q⟩ := K
  obtain ⟨hx, hb, hml, hown, hts, hK, hA, hR, hnw⟩ := C
  intro H locs ls hP hD hS hl
  exact lv_ldcw hx hb hown (hts _ hw) d (h H locs ls hP hD hS hl)
theorem qv_ldc2 (C : Cx K cI cJ cc nL own rm) {ix : Nat} {z : Int} (hw : Cond.constantLong own ix (zj z) ∈ al) (d : decode cc pc = .ok (.ldc2_w ix, 3)) (h : V K nL ws k n (pc + 3) lv (vj z :: st)) : V K nL ws k n pc lv st := by
  obtain ⟨p, l, e, R, s, m, args, below, meth, c, D, A, Q⟩ := K
  obtain ⟨hx, hb, hml, hown, hts, hK, hA, hR, hnw⟩ := C
  intro H locs ls hP hD hS hl
  exact lv_ldc2 hx hb hown (hts _ hw) d (h H locs ls hP hD hS hl)
theorem qv_iload_n (C : Cx K cI cJ cc nL own rm) {i : Fin 4} {x : Int32} (hl0 : lk lv i = some (.int x)) (d : decode cc pc = .ok (.iload_n i, 1)) (h : V K nL ws k n (pc + 1) lv (.int x :: st)) : V K nL ws k n pc lv st := by
  obtain ⟨p, l, e, R, s, m, args, below, meth, c, D, A, Q⟩ := K
  obtain ⟨hx, hb, hml, hown, hts, hK, hA, hR, hnw⟩ := C
  intro H locs ls hP hD hS hl
  exact lv_iload_n hx hb d rfl (lk_at hl hl0) (h H locs ls hP hD hS hl)
theorem qv_iload (C : Cx K cI cJ cc nL own rm) {i : Nat} {x : Int32} (hl0 : lk lv i = some (.int x)) (d : decode cc pc = .ok (.iload i, 2)) (h : V K nL ws k n (pc + 2) lv (.int x :: st)) : V K nL ws k n pc lv st := by
  obtain ⟨p, l, e, R, s, m, args, below, meth, c, D, A, Q⟩ := K
  obtain ⟨hx, hb, hml, hown, hts, hK, hA, hR, hnw⟩ := C
  intro H locs ls hP hD hS hl
  exact lv_iload hx hb d (lk_at hl hl0) (h H locs ls hP hD hS hl)
theorem qv_lload_n (C : Cx K cI cJ cc nL own rm) {i : Fin 4} {x : Int64} (hl0 : lk lv i = some (.long x)) (d : decode cc pc = .ok (.lload_n i, 1)) (h : V K nL ws k n (pc + 1) lv (.long x :: st)) : V K nL ws k n pc lv st := by
  obtain ⟨p, l, e, R, s, m, args, below, meth, c, D, A, Q⟩ := K
  obtain ⟨hx, hb, hml, hown, hts, hK, hA, hR, hnw⟩ := C
  intro H locs ls hP hD hS hl
  exact lv_lload_n hx hb d rfl (lk_at hl hl0) (h H locs ls hP hD hS hl)
theorem qv_lload (C : Cx K cI cJ cc nL own rm) {i : Nat} {x : Int64} (hl0 : lk lv i = some (.long x)) (d : decode cc pc = .ok (.lload i, 2)) (h : V K nL ws k n (pc + 2) lv (.long x :: st)) : V K nL ws k n pc lv st := by
  obtain ⟨p, l, e, R, s, m, args, below, meth, c, D, A, Q⟩ := K
  obtain ⟨hx, hb, hml, hown, hts, hK, hA, hR, hnw⟩ := C
  intro H locs ls hP hD hS hl
  exact lv_lload hx hb d (lk_at hl hl0) (h H locs ls hP hD hS hl)
theorem qv_aload_n (C : Cx K cI cJ cc nL own rm) {i : Fin 4} {x : Nat} (hl0 : lk lv i = some (.ref x)) (d : decode cc pc = .ok (.aload_n i, 1)) (h : V K nL ws k n (pc + 1) lv (.ref x :: st)) : V K nL ws k n pc lv st := by
  obtain ⟨p, l, e, R, s, m, args, below, meth, c, D, A, Q⟩ := K
  obtain ⟨hx, hb, hml, hown, hts, hK, hA, hR, hnw⟩ := C
  intro H locs ls hP hD hS hl
  exact lv_aload_n hx hb d rfl (lk_at hl hl0) (h H locs ls hP hD hS hl)
theorem qv_aload (C : Cx K cI cJ cc nL own rm) {i : Nat} {x : Nat} (hl0 : lk lv i = some (.ref x)) (d : decode cc pc = .ok (.aload i, 2)) (h : V K nL ws k n (pc + 2) lv (.ref x :: st)) : V K nL ws k n pc lv st := by
  obtain ⟨p, l, e, R, s, m, args, below, meth, c, D, A, Q⟩ := K
  obtain ⟨hx, hb, hml, hown, hts, hK, hA, hR, hnw⟩ := C
  intro H locs ls hP hD hS hl
  exact lv_aload hx hb d (lk_at hl hl0) (h H locs ls hP hD hS hl)
theorem qv_istore_n (C : Cx K cI cJ cc nL own rm) {i : Fin 4} {x : Int32} {lv' : List (Nat × Value)} (hn : i.val < nL) (hv : ((i : Nat), Value.int x) :: lv.filter (fun q => !(q.1 == (i : Nat)) && !(q.1 + 1 == (i : Nat) && q.2.category == 2)) = lv') (d : decode cc pc = .ok (.istore_n i, 1)) (h : V K nL ws k n (pc + 1) lv' st) : V K nL ws k n pc lv (Value.int x :: st) := by
  obtain ⟨p, l, e, R, s, m, args, below, meth, c, D, A, Q⟩ := K
  obtain ⟨hx, hb, hml, hown, hts, hK, hA, hR, hnw⟩ := C
  intro H locs ls hP hD hS hl
  exact lv_istore_n hx hb d rfl hl hn hv (fun ls' hl' => h H locs ls' hP hD hS hl')
theorem qv_istore (C : Cx K cI cJ cc nL own rm) {i : Nat} {x : Int32} {lv' : List (Nat × Value)} (hn : i < nL) (hv : (i, Value.int x) :: lv.filter (fun q => !(q.1 == i) && !(q.1 + 1 == i && q.2.category == 2)) = lv') (d : decode cc pc = .ok (.istore i, 2)) (h : V K nL ws k n (pc + 2) lv' st) : V K nL ws k n pc lv (Value.int x :: st) := by
  obtain ⟨p, l, e, R, s, m, args, below, meth, c, D, A, Q⟩ := K
  obtain ⟨hx, hb, hml, hown, hts, hK, hA, hR, hnw⟩ := C
  intro H locs ls hP hD hS hl
  exact lv_istore hx hb d hl hn hv (fun ls' hl' => h H locs ls' hP hD hS hl')
theorem qv_lstore_n (C : Cx K cI cJ cc nL own rm) {i : Fin 4} {x : Int64} {lv' : List (Nat × Value)} (hn : i.val + 1 < nL) (hv : ((i : Nat), Value.long x) :: lv.filter (fun q => !(q.1 == (i : Nat)) && (!(q.1 == (i : Nat) + 1) && !(q.1 + 1 == (i : Nat) && q.2.category == 2))) = lv') (d : decode cc pc = .ok (.lstore_n i, 1)) (h : V K nL ws k n (pc + 1) lv' st) : V K nL ws k n pc lv (Value.long x :: st) := by
  obtain ⟨p, l, e, R, s, m, args, below, meth, c, D, A, Q⟩ := K
  obtain ⟨hx, hb, hml, hown, hts, hK, hA, hR, hnw⟩ := C
  intro H locs ls hP hD hS hl
  exact lv_lstore_n hx hb d rfl hl hn hv (fun ls' hl' => h H locs ls' hP hD hS hl')
theorem qv_lstore (C : Cx K cI cJ cc nL own rm) {i : Nat} {x : Int64} {lv' : List (Nat × Value)} (hn : i + 1 < nL) (hv : (i, Value.long x) :: lv.filter (fun q => !(q.1 == i) && (!(q.1 == i + 1) && !(q.1 + 1 == i && q.2.category == 2))) = lv') (d : decode cc pc = .ok (.lstore i, 2)) (h : V K nL ws k n (pc + 2) lv' st) : V K nL ws k n pc lv (Value.long x :: st) := by
  obtain ⟨p, l, e, R, s, m, args, below, meth, c, D, A, Q⟩ := K
  obtain ⟨hx, hb, hml, hown, hts, hK, hA, hR, hnw⟩ := C
  intro H locs ls hP hD hS hl
  exact lv_lstore hx hb d hl hn hv (fun ls' hl' => h H locs ls' hP hD hS hl')
theorem qv_astore_n (C : Cx K cI cJ cc nL own rm) {i : Fin 4} {x : Nat} {lv' : List (Nat × Value)} (hn : i.val < nL) (hv : ((i : Nat), Value.ref x) :: lv.filter (fun q => !(q.1 == (i : Nat)) && !(q.1 + 1 == (i : Nat) && q.2.category == 2)) = lv') (d : decode cc pc = .ok (.astore_n i, 1)) (h : V K nL ws k n (pc + 1) lv' st) : V K nL ws k n pc lv (Value.ref x :: st) := by
  obtain ⟨p, l, e, R, s, m, args, below, meth, c, D, A, Q⟩ := K
  obtain ⟨hx, hb, hml, hown, hts, hK, hA, hR, hnw⟩ := C
  intro H locs ls hP hD hS hl
  exact lv_astore_n hx hb d rfl hl hn hv (fun ls' hl' => h H locs ls' hP hD hS hl')
theorem qv_astore (C : Cx K cI cJ cc nL own rm) {i : Nat} {x : Nat} {lv' : List (Nat × Value)} (hn : i < nL) (hv : (i, Value.ref x) :: lv.filter (fun q => !(q.1 == i) && !(q.1 + 1 == i && q.2.category == 2)) = lv') (d : decode cc pc = .ok (.astore i, 2)) (h : V K nL ws k n (pc + 2) lv' st) : V K nL ws k n pc lv (Value.ref x :: st) := by
  obtain ⟨p, l, e, R, s, m, args, below, meth, c, D, A, Q⟩ := K
  obtain ⟨hx, hb, hml, hown, hts, hK, hA, hR, hnw⟩ := C
  intro H locs ls hP hD hS hl
  exact lv_astore hx hb d hl hn hv (fun ls' hl' => h H locs ls' hP hD hS hl')
theorem qv_iinc (C : Cx K cI cJ cc nL own rm) {i j : Nat} {a z r : Int} {lv' : List (Nat × Value)} (er : a + z = r) (hj : lv[j]? = some (i, vi a)) (hn : i < nL) (hv : (i, vi r) :: lv.filter (fun q => !(q.1 == i) && !(q.1 + 1 == i && q.2.category == 2)) = lv') (d : decode cc pc = .ok (.iinc i z, 3)) (h : V K nL ws k n (pc + 3) lv' st) : V K nL ws k n pc lv st := by
  obtain ⟨p, l, e, R, s, m, args, below, meth, c, D, A, Q⟩ := K
  obtain ⟨hx, hb, hml, hown, hts, hK, hA, hR, hnw⟩ := C
  intro H locs ls hP hD hS hl
  subst er
  exact lv_iinc hx hb d hl hj (zi_add a z) hn hv (fun ls' hl' => h H locs ls' hP hD hS hl')
theorem qv_iincW (C : Cx K cI cJ cc nL own rm) {i j : Nat} {a z r : Int} {lv' : List (Nat × Value)} (er : a + z = r) (hj : lv[j]? = some (i, vi a)) (hn : i < nL) (hv : (i, vi r) :: lv.filter (fun q => !(q.1 == i) && !(q.1 + 1 == i && q.2.category == 2)) = lv') (d : decode cc pc = .ok (.iinc i z, 6)) (h : V K nL ws k n (pc + 6) lv' st) : V K nL ws k n pc lv st := by
  obtain ⟨p, l, e, R, s, m, args, below, meth, c, D, A, Q⟩ := K
  obtain ⟨hx, hb, hml, hown, hts, hK, hA, hR, hnw⟩ := C
  intro H locs ls hP hD hS hl
  subst er
  exact lv_iincW hx hb d hl hj (zi_add a z) hn hv (fun ls' hl' => h H locs ls' hP hD hS hl')
theorem qv_iadd (C : Cx K cI cJ cc nL own rm) {a b r : Int} (er : a + b = r) (d : decode cc pc = .ok (.iadd, 1)) (h : V K nL ws k n (pc + 1) lv (vi r :: st)) : V K nL ws k n pc lv (vi b :: vi a :: st) := by
  subst er
  obtain ⟨p, l, e, R, s, m, args, below, meth, c, D, A, Q⟩ := K
  obtain ⟨hx, hb, hml, hown, hts, hK, hA, hR, hnw⟩ := C
  intro H locs ls hP hD hS hl
  refine lv_iadd hx hb d ?_
  rw [zi_add]
  exact h H locs ls hP hD hS hl
theorem qv_isub (C : Cx K cI cJ cc nL own rm) {a b r : Int} (er : a - b = r) (d : decode cc pc = .ok (.isub, 1)) (h : V K nL ws k n (pc + 1) lv (vi r :: st)) : V K nL ws k n pc lv (vi b :: vi a :: st) := by
  subst er
  obtain ⟨p, l, e, R, s, m, args, below, meth, c, D, A, Q⟩ := K
  obtain ⟨hx, hb, hml, hown, hts, hK, hA, hR, hnw⟩ := C
  intro H locs ls hP hD hS hl
  refine lv_isub hx hb d ?_
  rw [zi_sub]
  exact h H locs ls hP hD hS hl
theorem qv_imul (C : Cx K cI cJ cc nL own rm) {a b r : Int} (er : a * b = r) (d : decode cc pc = .ok (.imul, 1)) (h : V K nL ws k n (pc + 1) lv (vi r :: st)) : V K nL ws k n pc lv (vi b :: vi a :: st) := by
  subst er
  obtain ⟨p, l, e, R, s, m, args, below, meth, c, D, A, Q⟩ := K
  obtain ⟨hx, hb, hml, hown, hts, hK, hA, hR, hnw⟩ := C
  intro H locs ls hP hD hS hl
  refine lv_imul hx hb d ?_
  rw [zi_mul]
  exact h H locs ls hP hD hS hl
theorem qv_ladd (C : Cx K cI cJ cc nL own rm) {a b r : Int} (er : a + b = r) (d : decode cc pc = .ok (.ladd, 1)) (h : V K nL ws k n (pc + 1) lv (vj r :: st)) : V K nL ws k n pc lv (vj b :: vj a :: st) := by
  subst er
  obtain ⟨p, l, e, R, s, m, args, below, meth, c, D, A, Q⟩ := K
  obtain ⟨hx, hb, hml, hown, hts, hK, hA, hR, hnw⟩ := C
  intro H locs ls hP hD hS hl
  refine lv_ladd hx hb d ?_
  rw [zj_add]
  exact h H locs ls hP hD hS hl
theorem qv_lsub (C : Cx K cI cJ cc nL own rm) {a b r : Int} (er : a - b = r) (d : decode cc pc = .ok (.lsub, 1)) (h : V K nL ws k n (pc + 1) lv (vj r :: st)) : V K nL ws k n pc lv (vj b :: vj a :: st) := by
  subst er
  obtain ⟨p, l, e, R, s, m, args, below, meth, c, D, A, Q⟩ := K
  obtain ⟨hx, hb, hml, hown, hts, hK, hA, hR, hnw⟩ := C
  intro H locs ls hP hD hS hl
  refine lv_lsub hx hb d ?_
  rw [zj_sub]
  exact h H locs ls hP hD hS hl
theorem qv_lmul (C : Cx K cI cJ cc nL own rm) {a b r : Int} (er : a * b = r) (d : decode cc pc = .ok (.lmul, 1)) (h : V K nL ws k n (pc + 1) lv (vj r :: st)) : V K nL ws k n pc lv (vj b :: vj a :: st) := by
  subst er
  obtain ⟨p, l, e, R, s, m, args, below, meth, c, D, A, Q⟩ := K
  obtain ⟨hx, hb, hml, hown, hts, hK, hA, hR, hnw⟩ := C
  intro H locs ls hP hD hS hl
  refine lv_lmul hx hb d ?_
  rw [zj_mul]
  exact h H locs ls hP hD hS hl
theorem qv_idiv (C : Cx K cI cJ cc nL own rm) {a b r : Int} (ha : 0 ≤ a) (ha2 : a ≤ 2147483647) (hb0 : 0 < b) (hb2 : b ≤ 2147483647) (er : a / b = r) (d : decode cc pc = .ok (.idiv, 1)) (h : V K nL ws k n (pc + 1) lv (vi r :: st)) : V K nL ws k n pc lv (vi b :: vi a :: st) := by
  subst er
  obtain ⟨p, l, e, R, s, m, args, below, meth, c, D, A, Q⟩ := K
  obtain ⟨hx, hb, hml, hown, hts, hK, hA, hR, hnw⟩ := C
  intro H locs ls hP hD hS hl
  refine lv_idiv hx hb d (zi_nz ⟨by omega, hb2⟩ (by omega)) ?_
  rw [zi_div ha ha2 hb0 hb2]
  exact h H locs ls hP hD hS hl
theorem qv_irem (C : Cx K cI cJ cc nL own rm) {a b r : Int} (ha : 0 ≤ a) (ha2 : a ≤ 2147483647) (hb0 : 0 < b) (hb2 : b ≤ 2147483647) (er : a % b = r) (d : decode cc pc = .ok (.irem, 1)) (h : V K nL ws k n (pc + 1) lv (vi r :: st)) : V K nL ws k n pc lv (vi b :: vi a :: st) := by
  subst er
  obtain ⟨p, l, e, R, s, m, args, below, meth, c, D, A, Q⟩ := K
  obtain ⟨hx, hb, hml, hown, hts, hK, hA, hR, hnw⟩ := C
  intro H locs ls hP hD hS hl
  refine lv_irem hx hb d (zi_nz ⟨by omega, hb2⟩ (by omega)) ?_
  rw [zi_rem ha ha2 hb0 hb2]
  exact h H locs ls hP hD hS hl
theorem qv_ldiv (C : Cx K cI cJ cc nL own rm) {a b r : Int} (ha : 0 ≤ a) (ha2 : a ≤ 9223372036854775807) (hb0 : 0 < b) (hb2 : b ≤ 9223372036854775807) (er : a / b = r) (d : decode cc pc = .ok (.ldiv, 1)) (h : V K nL ws k n (pc + 1) lv (vj r :: st)) : V K nL ws k n pc lv (vj b :: vj a :: st) := by
  subst er
  obtain ⟨p, l, e, R, s, m, args, below, meth, c, D, A, Q⟩ := K
  obtain ⟨hx, hb, hml, hown, hts, hK, hA, hR, hnw⟩ := C
  intro H locs ls hP hD hS hl
  refine lv_ldiv hx hb d (zj_nz ⟨by omega, hb2⟩ (by omega)) ?_
  rw [zj_div ha ha2 hb0 hb2]
  exact h H locs ls hP hD hS hl
theorem qv_lrem (C : Cx K cI cJ cc nL own rm) {a b r : Int} (ha : 0 ≤ a) (ha2 : a ≤ 9223372036854775807) (hb0 : 0 < b) (hb2 : b ≤ 9223372036854775807) (er : a % b = r) (d : decode cc pc = .ok (.lrem, 1)) (h : V K nL ws k n (pc + 1) lv (vj r :: st)) : V K nL ws k n pc lv (vj b :: vj a :: st) := by
  subst er
  obtain ⟨p, l, e, R, s, m, args, below, meth, c, D, A, Q⟩ := K
  obtain ⟨hx, hb, hml, hown, hts, hK, hA, hR, hnw⟩ := C
  intro H locs ls hP hD hS hl
  refine lv_lrem hx hb d (zj_nz ⟨by omega, hb2⟩ (by omega)) ?_
  rw [zj_rem ha ha2 hb0 hb2]
  exact h H locs ls hP hD hS hl
theorem qv_ineg (C : Cx K cI cJ cc nL own rm) {a : Int} (d : decode cc pc = .ok (.ineg, 1)) (h : V K nL ws k n (pc + 1) lv (vi (-a) :: st)) : V K nL ws k n pc lv (vi a :: st) := by
  obtain ⟨p, l, e, R, s, m, args, below, meth, c, D, A, Q⟩ := K
  obtain ⟨hx, hb, hml, hown, hts, hK, hA, hR, hnw⟩ := C
  intro H locs ls hP hD hS hl
  refine lv_ineg hx hb d ?_
  rw [zi_neg]
  exact h H locs ls hP hD hS hl
theorem qv_i2l (C : Cx K cI cJ cc nL own rm) {a : Int} (ha : ri a) (d : decode cc pc = .ok (.i2l, 1)) (h : V K nL ws k n (pc + 1) lv (vj a :: st)) : V K nL ws k n pc lv (vi a :: st) := by
  obtain ⟨p, l, e, R, s, m, args, below, meth, c, D, A, Q⟩ := K
  obtain ⟨hx, hb, hml, hown, hts, hK, hA, hR, hnw⟩ := C
  intro H locs ls hP hD hS hl
  exact lv_i2l hx hb d (zi_zj ha) (h H locs ls hP hD hS hl)
theorem qv_l2i (C : Cx K cI cJ cc nL own rm) {a : Int} (d : decode cc pc = .ok (.l2i, 1)) (h : V K nL ws k n (pc + 1) lv (vi a :: st)) : V K nL ws k n pc lv (vj a :: st) := by
  obtain ⟨p, l, e, R, s, m, args, below, meth, c, D, A, Q⟩ := K
  obtain ⟨hx, hb, hml, hown, hts, hK, hA, hR, hnw⟩ := C
  intro H locs ls hP hD hS hl
  exact lv_l2i hx hb d (zj_zi a) (h H locs ls hP hD hS hl)
theorem qv_lshl (C : Cx K cI cJ cc nL own rm) {a b : Int} (x y : Nat) (hx1 : a = (x : Int)) (hy1 : b = (y : Int)) (hy : y < 64) (d : decode cc pc = .ok (.lshl, 1)) (h : V K nL ws k n (pc + 1) lv (vj ((x * 2 ^ y : Nat) : Int) :: st)) : V K nL ws k n pc lv (vi b :: vj a :: st) := by
  obtain ⟨p, l, e, R, s, m, args, below, meth, c, D, A, Q⟩ := K
  obtain ⟨hx, hb, hml, hown, hts, hK, hA, hR, hnw⟩ := C
  intro H locs ls hP hD hS hl
  subst hx1 hy1
  exact lv_lshl hx hb d (zj_shl hy) (h H locs ls hP hD hS hl)
theorem qv_lushr (C : Cx K cI cJ cc nL own rm) {a b : Int} (x y : Nat) (hx1 : a = (x : Int)) (hx2 : x < 18446744073709551616) (hy1 : b = (y : Int)) (hy : y < 64) (d : decode cc pc = .ok (.lushr, 1)) (h : V K nL ws k n (pc + 1) lv (vj ((x / 2 ^ y : Nat) : Int) :: st)) : V K nL ws k n pc lv (vi b :: vj a :: st) := by
  obtain ⟨p, l, e, R, s, m, args, below, meth, c, D, A, Q⟩ := K
  obtain ⟨hx, hb, hml, hown, hts, hK, hA, hR, hnw⟩ := C
  intro H locs ls hP hD hS hl
  subst hx1 hy1
  exact lv_lushr hx hb d (zj_ushr hx2 hy) (h H locs ls hP hD hS hl)
theorem qv_land (C : Cx K cI cJ cc nL own rm) {a b : Int} {r : Int} (hr : zj a &&& zj b = zj r) (d : decode cc pc = .ok (.land, 1)) (h : V K nL ws k n (pc + 1) lv (vj r :: st)) : V K nL ws k n pc lv (vj b :: vj a :: st) := by
  obtain ⟨p, l, e, R, s, m, args, below, meth, c, D, A, Q⟩ := K
  obtain ⟨hx, hb, hml, hown, hts, hK, hA, hR, hnw⟩ := C
  intro H locs ls hP hD hS hl
  refine lv_land hx hb d ?_
  rw [hr]
  exact h H locs ls hP hD hS hl
theorem qv_lor (C : Cx K cI cJ cc nL own rm) {a b : Int} {r : Int} (hr : zj a ||| zj b = zj r) (d : decode cc pc = .ok (.lor, 1)) (h : V K nL ws k n (pc + 1) lv (vj r :: st)) : V K nL ws k n pc lv (vj b :: vj a :: st) := by
  obtain ⟨p, l, e, R, s, m, args, below, meth, c, D, A, Q⟩ := K
  obtain ⟨hx, hb, hml, hown, hts, hK, hA, hR, hnw⟩ := C
  intro H locs ls hP hD hS hl
  refine lv_lor hx hb d ?_
  rw [hr]
  exact h H locs ls hP hD hS hl
theorem qv_iand (C : Cx K cI cJ cc nL own rm) {a b : Int} {r : Int} (hr : zi a &&& zi b = zi r) (d : decode cc pc = .ok (.iand, 1)) (h : V K nL ws k n (pc + 1) lv (vi r :: st)) : V K nL ws k n pc lv (vi b :: vi a :: st) := by
  obtain ⟨p, l, e, R, s, m, args, below, meth, c, D, A, Q⟩ := K
  obtain ⟨hx, hb, hml, hown, hts, hK, hA, hR, hnw⟩ := C
  intro H locs ls hP hD hS hl
  refine lv_iand hx hb d ?_
  rw [hr]
  exact h H locs ls hP hD hS hl
theorem qv_ior (C : Cx K cI cJ cc nL own rm) {a b : Int} {r : Int} (hr : zi a ||| zi b = zi r) (d : decode cc pc = .ok (.ior, 1)) (h : V K nL ws k n (pc + 1) lv (vi r :: st)) : V K nL ws k n pc lv (vi b :: vi a :: st) := by
  obtain ⟨p, l, e, R, s, m, args, below, meth, c, D, A, Q⟩ := K
  obtain ⟨hx, hb, hml, hown, hts, hK, hA, hR, hnw⟩ := C
  intro H locs ls hP hD hS hl
  refine lv_ior hx hb d ?_
  rw [hr]
  exact h H locs ls hP hD hS hl
theorem qv_lcmp (C : Cx K cI cJ cc nL own rm) {a b : Int} (ha : rj a) (hb0 : rj b) (d : decode cc pc = .ok (.lcmp, 1)) (h : V K nL ws k n (pc + 1) lv (vi (if b < a then 1 else if a = b then 0 else -1) :: st)) : V K nL ws k n pc lv (vj b :: vj a :: st) := by
  obtain ⟨p, l, e, R, s, m, args, below, meth, c, D, A, Q⟩ := K
  obtain ⟨hx, hb, hml, hown, hts, hK, hA, hR, hnw⟩ := C
  intro H locs ls hP hD hS hl
  refine W.lcmp hx hb d ?_
  rw [zj_cmp ha hb0]
  exact h H locs ls hP hD hS hl
theorem qv_dup (C : Cx K cI cJ cc nL own rm) {v : Value} (hv : v.category = 1) (d : decode cc pc = .ok (.dup, 1)) (h : V K nL ws k n (pc + 1) lv (v :: v :: st)) : V K nL ws k n pc lv (v :: st) := by
  obtain ⟨p, l, e, R, s, m, args, below, meth, c, D, A, Q⟩ := K
  obtain ⟨hx, hb, hml, hown, hts, hK, hA, hR, hnw⟩ := C
  intro H locs ls hP hD hS hl
  exact lv_dup hx hb d hv (h H locs ls hP hD hS hl)
theorem qv_pop (C : Cx K cI cJ cc nL own rm) {v : Value} (hv : v.category = 1) (d : decode cc pc = .ok (.pop, 1)) (h : V K nL ws k n (pc + 1) lv st) : V K nL ws k n pc lv (v :: st) := by
  obtain ⟨p, l, e, R, s, m, args, below, meth, c, D, A, Q⟩ := K
  obtain ⟨hx, hb, hml, hown, hts, hK, hA, hR, hnw⟩ := C
  intro H locs ls hP hD hS hl
  exact lv_pop hx hb d hv (h H locs ls hP hD hS hl)
theorem qv_pop2 (C : Cx K cI cJ cc nL own rm) {v : Value} (hv : v.category = 2) (d : decode cc pc = .ok (.pop2, 1)) (h : V K nL ws k n (pc + 1) lv st) : V K nL ws k n pc lv (v :: st) := by
  obtain ⟨p, l, e, R, s, m, args, below, meth, c, D, A, Q⟩ := K
  obtain ⟨hx, hb, hml, hown, hts, hK, hA, hR, hnw⟩ := C
  intro H locs ls hP hD hS hl
  exact lv_pop2_2 hx hb d hv (h H locs ls hP hD hS hl)
theorem qv_dup_x1 (C : Cx K cI cJ cc nL own rm) {v u : Value} (hv : v.category = 1) (hu : u.category = 1) (d : decode cc pc = .ok (.dup_x1, 1)) (h : V K nL ws k n (pc + 1) lv (v :: u :: v :: st)) : V K nL ws k n pc lv (v :: u :: st) := by
  obtain ⟨p, l, e, R, s, m, args, below, meth, c, D, A, Q⟩ := K
  obtain ⟨hx, hb, hml, hown, hts, hK, hA, hR, hnw⟩ := C
  intro H locs ls hP hD hS hl
  exact lv_dup_x1 hx hb d hv hu (h H locs ls hP hD hS hl)
theorem qv_dup2 (C : Cx K cI cJ cc nL own rm) {v u : Value} (hv : v.category = 1) (hu : u.category = 1) (d : decode cc pc = .ok (.dup2, 1)) (h : V K nL ws k n (pc + 1) lv (v :: u :: v :: u :: st)) : V K nL ws k n pc lv (v :: u :: st) := by
  obtain ⟨p, l, e, R, s, m, args, below, meth, c, D, A, Q⟩ := K
  obtain ⟨hx, hb, hml, hown, hts, hK, hA, hR, hnw⟩ := C
  intro H locs ls hP hD hS hl
  exact lv_dup2_11 hx hb d hv hu (h H locs ls hP hD hS hl)
theorem qv_dup2L (C : Cx K cI cJ cc nL own rm) {v : Value} (hv : v.category = 2) (d : decode cc pc = .ok (.dup2, 1)) (h : V K nL ws k n (pc + 1) lv (v :: v :: st)) : V K nL ws k n pc lv (v :: st) := by
  obtain ⟨p, l, e, R, s, m, args, below, meth, c, D, A, Q⟩ := K
  obtain ⟨hx, hb, hml, hown, hts, hK, hA, hR, hnw⟩ := C
  intro H locs ls hP hD hS hl
  exact lv_dup2_2 hx hb d hv (h H locs ls hP hD hS hl)
theorem qv_ifeq (C : Cx K cI cJ cc nL own rm) {a off : Int} {tgt : Nat} (ha : ri a) (ht : (pc : Int) + off = (tgt : Int)) (d : decode cc pc = .ok (.ifCond .eq off, 3)) (h1 : a = 0 → V K nL ws k n tgt lv st) (h2 : ¬ a = 0 → V K nL ws k n (pc + 3) lv st) : V K nL ws k n pc lv (vi a :: st) := by
  obtain ⟨p, l, e, R, s, m, args, below, meth, c, D, A, Q⟩ := K
  obtain ⟨hx, hb, hml, hown, hts, hK, hA, hR, hnw⟩ := C
  intro H locs ls hP hD hS hl
  have e0 : zi a = 0 ↔ a = 0 := by rw [← zi_0]; exact zi_eq ha (by omega)
  exact lv_if_eq hx hb d ht (fun q => h1 (e0.mp q) H locs ls hP hD hS hl) (fun q => h2 (fun q2 => q (e0.mpr q2)) H locs ls hP hD hS hl)
theorem qv_ifne (C : Cx K cI cJ cc nL own rm) {a off : Int} {tgt : Nat} (ha : ri a) (ht : (pc : Int) + off = (tgt : Int)) (d : decode cc pc = .ok (.ifCond .ne off, 3)) (h1 : a ≠ 0 → V K nL ws k n tgt lv st) (h2 : a = 0 → V K nL ws k n (pc + 3) lv st) : V K nL ws k n pc lv (vi a :: st) := by
  obtain ⟨p, l, e, R, s, m, args, below, meth, c, D, A, Q⟩ := K
  obtain ⟨hx, hb, hml, hown, hts, hK, hA, hR, hnw⟩ := C
  intro H locs ls hP hD hS hl
  have e0 : zi a = 0 ↔ a = 0 := by rw [← zi_0]; exact zi_eq ha (by omega)
  exact lv_if_ne hx hb d ht (fun q => h1 (fun q2 => q (e0.mpr q2)) H locs ls hP hD hS hl) (fun q => h2 (e0.mp q) H locs ls hP hD hS hl)
theorem qv_iflt (C : Cx K cI cJ cc nL own rm) {a off : Int} {tgt : Nat} (ha : ri a) (ht : (pc : Int) + off = (tgt : Int)) (d : decode cc pc = .ok (.ifCond .lt off, 3)) (h1 : a < 0 → V K nL ws k n tgt lv st) (h2 : ¬ a < 0 → V K nL ws k n (pc + 3) lv st) : V K nL ws k n pc lv (vi a :: st) := by
  obtain ⟨p, l, e, R, s, m, args, below, meth, c, D, A, Q⟩ := K
  obtain ⟨hx, hb, hml, hown, hts, hK, hA, hR, hnw⟩ := C
  intro H locs ls hP hD hS hl
  have e0 : zi a < 0 ↔ a < 0 := by rw [← zi_0]; exact zi_lt ha (by omega)
  exact lv_if_lt hx hb d ht (fun q => h1 (e0.mp q) H locs ls hP hD hS hl) (fun q => h2 (fun q2 => q (e0.mpr q2)) H locs ls hP hD hS hl)
theorem qv_ifge (C : Cx K cI cJ cc nL own rm) {a off : Int} {tgt : Nat} (ha : ri a) (ht : (pc : Int) + off = (tgt : Int)) (d : decode cc pc = .ok (.ifCond .ge off, 3)) (h1 : 0 ≤ a → V K nL ws k n tgt lv st) (h2 : ¬ 0 ≤ a → V K nL ws k n (pc + 3) lv st) : V K nL ws k n pc lv (vi a :: st) := by
  obtain ⟨p, l, e, R, s, m, args, below, meth, c, D, A, Q⟩ := K
  obtain ⟨hx, hb, hml, hown, hts, hK, hA, hR, hnw⟩ := C
  intro H locs ls hP hD hS hl
  have e0 : (0 : Int32) ≤ zi a ↔ 0 ≤ a := by rw [← zi_0]; exact zi_le (by omega) ha
  exact lv_if_ge hx hb d ht (fun q => h1 (e0.mp q) H locs ls hP hD hS hl) (fun q => h2 (fun q2 => q (e0.mpr q2)) H locs ls hP hD hS hl)
theorem qv_ifgt (C : Cx K cI cJ cc nL own rm) {a off : Int} {tgt : Nat} (ha : ri a) (ht : (pc : Int) + off = (tgt : Int)) (d : decode cc pc = .ok (.ifCond .gt off, 3)) (h1 : 0 < a → V K nL ws k n tgt lv st) (h2 : ¬ 0 < a → V K nL ws k n (pc + 3) lv st) : V K nL ws k n pc lv (vi a :: st) := by
  obtain ⟨p, l, e, R, s, m, args, below, meth, c, D, A, Q⟩ := K
  obtain ⟨hx, hb, hml, hown, hts, hK, hA, hR, hnw⟩ := C
  intro H locs ls hP hD hS hl
  have e0 : (0 : Int32) < zi a ↔ 0 < a := by rw [← zi_0]; exact zi_lt (by omega) ha
  exact lv_if_gt hx hb d ht (fun q => h1 (e0.mp q) H locs ls hP hD hS hl) (fun q => h2 (fun q2 => q (e0.mpr q2)) H locs ls hP hD hS hl)
theorem qv_ifle (C : Cx K cI cJ cc nL own rm) {a off : Int} {tgt : Nat} (ha : ri a) (ht : (pc : Int) + off = (tgt : Int)) (d : decode cc pc = .ok (.ifCond .le off, 3)) (h1 : a ≤ 0 → V K nL ws k n tgt lv st) (h2 : ¬ a ≤ 0 → V K nL ws k n (pc + 3) lv st) : V K nL ws k n pc lv (vi a :: st) := by
  obtain ⟨p, l, e, R, s, m, args, below, meth, c, D, A, Q⟩ := K
  obtain ⟨hx, hb, hml, hown, hts, hK, hA, hR, hnw⟩ := C
  intro H locs ls hP hD hS hl
  have e0 : zi a ≤ 0 ↔ a ≤ 0 := by rw [← zi_0]; exact zi_le ha (by omega)
  exact lv_if_le hx hb d ht (fun q => h1 (e0.mp q) H locs ls hP hD hS hl) (fun q => h2 (fun q2 => q (e0.mpr q2)) H locs ls hP hD hS hl)
theorem qv_iceq (C : Cx K cI cJ cc nL own rm) {a b off : Int} {tgt : Nat} (ha : ri a) (hb0 : ri b) (ht : (pc : Int) + off = (tgt : Int)) (d : decode cc pc = .ok (.if_icmp .eq off, 3)) (h1 : a = b → V K nL ws k n tgt lv st) (h2 : ¬ a = b → V K nL ws k n (pc + 3) lv st) : V K nL ws k n pc lv (vi b :: vi a :: st) := by
  obtain ⟨p, l, e, R, s, m, args, below, meth, c, D, A, Q⟩ := K
  obtain ⟨hx, hb, hml, hown, hts, hK, hA, hR, hnw⟩ := C
  intro H locs ls hP hD hS hl
  have e0 : zi a = zi b ↔ a = b := zi_eq ha hb0
  exact lv_icmp_eq hx hb d ht (fun q => h1 (e0.mp q) H locs ls hP hD hS hl) (fun q => h2 (fun q2 => q (e0.mpr q2)) H locs ls hP hD hS hl)
theorem qv_icne (C : Cx K cI cJ cc nL own rm) {a b off : Int} {tgt : Nat} (ha : ri a) (hb0 : ri b) (ht : (pc : Int) + off = (tgt : Int)) (d : decode cc pc = .ok (.if_icmp .ne off, 3)) (h1 : a ≠ b → V K nL ws k n tgt lv st) (h2 : a = b → V K nL ws k n (pc + 3) lv st) : V K nL ws k n pc lv (vi b :: vi a :: st) := by
  obtain ⟨p, l, e, R, s, m, args, below, meth, c, D, A, Q⟩ := K
  obtain ⟨hx, hb, hml, hown, hts, hK, hA, hR, hnw⟩ := C
  intro H locs ls hP hD hS hl
  have e0 : zi a = zi b ↔ a = b := zi_eq ha hb0
  exact lv_icmp_ne hx hb d ht (fun q => h1 (fun q2 => q (e0.mpr q2)) H locs ls hP hD hS hl) (fun q => h2 (e0.mp q) H locs ls hP hD hS hl)
theorem qv_iclt (C : Cx K cI cJ cc nL own rm) {a b off : Int} {tgt : Nat} (ha : ri a) (hb0 : ri b) (ht : (pc : Int) + off = (tgt : Int)) (d : decode cc pc = .ok (.if_icmp .lt off, 3)) (h1 : a < b → V K nL ws k n tgt lv st) (h2 : ¬ a < b → V K nL ws k n (pc + 3) lv st) : V K nL ws k n pc lv (vi b :: vi a :: st) := by
  obtain ⟨p, l, e, R, s, m, args, below, meth, c, D, A, Q⟩ := K
  obtain ⟨hx, hb, hml, hown, hts, hK, hA, hR, hnw⟩ := C
  intro H locs ls hP hD hS hl
  have e0 : zi a < zi b ↔ a < b := zi_lt ha hb0
  exact lv_icmp_lt hx hb d ht (fun q => h1 (e0.mp q) H locs ls hP hD hS hl) (fun q => h2 (fun q2 => q (e0.mpr q2)) H locs ls hP hD hS hl)
theorem qv_icge (C : Cx K cI cJ cc nL own rm) {a b off : Int} {tgt : Nat} (ha : ri a) (hb0 : ri b) (ht : (pc : Int) + off = (tgt : Int)) (d : decode cc pc = .ok (.if_icmp .ge off, 3)) (h1 : b ≤ a → V K nL ws k n tgt lv st) (h2 : ¬ b ≤ a → V K nL ws k n (pc + 3) lv st) : V K nL ws k n pc lv (vi b :: vi a :: st) := by
  obtain ⟨p, l, e, R, s, m, args, below, meth, c, D, A, Q⟩ := K
  obtain ⟨hx, hb, hml, hown, hts, hK, hA, hR, hnw⟩ := C
  intro H locs ls hP hD hS hl
  have e0 : zi b ≤ zi a ↔ b ≤ a := zi_le hb0 ha
  exact lv_icmp_ge hx hb d ht (fun q => h1 (e0.mp q) H locs ls hP hD hS hl) (fun q => h2 (fun q2 => q (e0.mpr q2)) H locs ls hP hD hS hl)
theorem qv_icgt (C : Cx K cI cJ cc nL own rm) {a b off : Int} {tgt : Nat} (ha : ri a) (hb0 : ri b) (ht : (pc : Int) + off = (tgt : Int)) (d : decode cc pc = .ok (.if_icmp .gt off, 3)) (h1 : b < a → V K nL ws k n tgt lv st) (h2 : ¬ b < a → V K nL ws k n (pc + 3) lv st) : V K nL ws k n pc lv (vi b :: vi a :: st) := by
  obtain ⟨p, l, e, R, s, m, args, below, meth, c, D, A, Q⟩ := K
  obtain ⟨hx, hb, hml, hown, hts, hK, hA, hR, hnw⟩ := C
  intro H locs ls hP hD hS hl
  have e0 : zi b < zi a ↔ b < a := zi_lt hb0 ha
  exact lv_icmp_gt hx hb d ht (fun q => h1 (e0.mp q) H locs ls hP hD hS hl) (fun q => h2 (fun q2 => q (e0.mpr q2)) H locs ls hP hD hS hl)
theorem qv_icle (C : Cx K cI cJ cc nL own rm) {a b off : Int} {tgt : Nat} (ha : ri a) (hb0 : ri b) (ht : (pc : Int) + off = (tgt : Int)) (d : decode cc pc = .ok (.if_icmp .le off, 3)) (h1 : a ≤ b → V K nL ws k n tgt lv st) (h2 : ¬ a ≤ b → V K nL ws k n (pc + 3) lv st) : V K nL ws k n pc lv (vi b :: vi a :: st) := by
  obtain ⟨p, l, e, R, s, m, args, below, meth, c, D, A, Q⟩ := K
  obtain ⟨hx, hb, hml, hown, hts, hK, hA, hR, hnw⟩ := C
  intro H locs ls hP hD hS hl
  have e0 : zi a ≤ zi b ↔ a ≤ b := zi_le ha hb0
  exact lv_icmp_le hx hb d ht (fun q => h1 (e0.mp q) H locs ls hP hD hS hl) (fun q => h2 (fun q2 => q (e0.mpr q2)) H locs ls hP hD hS hl)
theorem qv_goto (C : Cx K cI cJ cc nL own rm) {off : Int} {tgt : Nat} (ht : (pc : Int) + off = (tgt : Int)) (d : decode cc pc = .ok (.goto off, 3)) (h : V K nL ws k n tgt lv st) : V K nL ws k n pc lv st := by
  obtain ⟨p, l, e, R, s, m, args, below, meth, c, D, A, Q⟩ := K
  obtain ⟨hx, hb, hml, hown, hts, hK, hA, hR, hnw⟩ := C
  intro H locs ls hP hD hS hl
  exact lv_goto hx hb d ht (h H locs ls hP hD hS hl)
theorem qv_lceq (C : Cx K cI cJ cc nL own rm) {a b off : Int} {tgt : Nat} (ha : rj a) (hb0 : rj b) (d0 : decode cc pc = .ok (.lcmp, 1)) (ht : ((pc + 1 : Nat) : Int) + off = (tgt : Int)) (d : decode cc (pc + 1) = .ok (.ifCond .eq off, 3)) (h1 : a = b → V K nL ws k n tgt lv st) (h2 : ¬ a = b → V K nL ws k n (pc + 1 + 3) lv st) : V K nL ws k n pc lv (vj b :: vj a :: st) := by
  refine qv_lcmp C ha hb0 d0 ?_
  by_cases g1 : b < a
  · rw [if_pos g1]
    exact qv_ifeq C (by omega) ht d (fun q => h1 (by omega)) (fun q => h2 (by omega))
  · rw [if_neg g1]
    by_cases g2 : a = b
    · rw [if_pos g2]
      exact qv_ifeq C (by omega) ht d (fun q => h1 (by omega)) (fun q => h2 (by omega))
    · rw [if_neg g2]
      exact qv_ifeq C (by omega) ht d (fun q => h1 (by omega)) (fun q => h2 (by omega))
theorem qv_lcne (C : Cx K cI cJ cc nL own rm) {a b off : Int} {tgt : Nat} (ha : rj a) (hb0 : rj b) (d0 : decode cc pc = .ok (.lcmp, 1)) (ht : ((pc + 1 : Nat) : Int) + off = (tgt : Int)) (d : decode cc (pc + 1) = .ok (.ifCond .ne off, 3)) (h1 : a ≠ b → V K nL ws k n tgt lv st) (h2 : a = b → V K nL ws k n (pc + 1 + 3) lv st) : V K nL ws k n pc lv (vj b :: vj a :: st) := by
  refine qv_lcmp C ha hb0 d0 ?_
  by_cases g1 : b < a
  · rw [if_pos g1]
    exact qv_ifne C (by omega) ht d (fun q => h1 (by omega)) (fun q => h2 (by omega))
  · rw [if_neg g1]
    by_cases g2 : a = b
    · rw [if_pos g2]
      exact qv_ifne C (by omega) ht d (fun q => h1 (by omega)) (fun q => h2 (by omega))
    · rw [if_neg g2]
      exact qv_ifne C (by omega) ht d (fun q => h1 (by omega)) (fun q => h2 (by omega))
theorem qv_lclt (C : Cx K cI cJ cc nL own rm) {a b off : Int} {tgt : Nat} (ha : rj a) (hb0 : rj b) (d0 : decode cc pc = .ok (.lcmp, 1)) (ht : ((pc + 1 : Nat) : Int) + off = (tgt : Int)) (d : decode cc (pc + 1) = .ok (.ifCond .lt off, 3)) (h1 : a < b → V K nL ws k n tgt lv st) (h2 : ¬ a < b → V K nL ws k n (pc + 1 + 3) lv st) : V K nL ws k n pc lv (vj b :: vj a :: st) := by
  refine qv_lcmp C ha hb0 d0 ?_
  by_cases g1 : b < a
  · rw [if_pos g1]
    exact qv_iflt C (by omega) ht d (fun q => h1 (by omega)) (fun q => h2 (by omega))
  · rw [if_neg g1]
    by_cases g2 : a = b
    · rw [if_pos g2]
      exact qv_iflt C (by omega) ht d (fun q => h1 (by omega)) (fun q => h2 (by omega))
    · rw [if_neg g2]
      exact qv_iflt C (by omega) ht d (fun q => h1 (by omega)) (fun q => h2 (by omega))
theorem qv_lcge (C : Cx K cI cJ cc nL own rm) {a b off : Int} {tgt : Nat} (ha : rj a) (hb0 : rj b) (d0 : decode cc pc = .ok (.lcmp, 1)) (ht : ((pc + 1 : Nat) : Int) + off = (tgt : Int)) (d : decode cc (pc + 1) = .ok (.ifCond .ge off, 3)) (h1 : b ≤ a → V K nL ws k n tgt lv st) (h2 : ¬ b ≤ a → V K nL ws k n (pc + 1 + 3) lv st) : V K nL ws k n pc lv (vj b :: vj a :: st) := by
  refine qv_lcmp C ha hb0 d0 ?_
  by_cases g1 : b < a
  · rw [if_pos g1]
    exact qv_ifge C (by omega) ht d (fun q => h1 (by omega)) (fun q => h2 (by omega))
  · rw [if_neg g1]
    by_cases g2 : a = b
    · rw [if_pos g2]
      exact qv_ifge C (by omega) ht d (fun q => h1 (by omega)) (fun q => h2 (by omega))
    · rw [if_neg g2]
      exact qv_ifge C (by omega) ht d (fun q => h1 (by omega)) (fun q => h2 (by omega))
theorem qv_lcgt (C : Cx K cI cJ cc nL own rm) {a b off : Int} {tgt : Nat} (ha : rj a) (hb0 : rj b) (d0 : decode cc pc = .ok (.lcmp, 1)) (ht : ((pc + 1 : Nat) : Int) + off = (tgt : Int)) (d : decode cc (pc + 1) = .ok (.ifCond .gt off, 3)) (h1 : b < a → V K nL ws k n tgt lv st) (h2 : ¬ b < a → V K nL ws k n (pc + 1 + 3) lv st) : V K nL ws k n pc lv (vj b :: vj a :: st) := by
  refine qv_lcmp C ha hb0 d0 ?_
  by_cases g1 : b < a
  · rw [if_pos g1]
    exact qv_ifgt C (by omega) ht d (fun q => h1 (by omega)) (fun q => h2 (by omega))
  · rw [if_neg g1]
    by_cases g2 : a = b
    · rw [if_pos g2]
      exact qv_ifgt C (by omega) ht d (fun q => h1 (by omega)) (fun q => h2 (by omega))
    · rw [if_neg g2]
      exact qv_ifgt C (by omega) ht d (fun q => h1 (by omega)) (fun q => h2 (by omega))
theorem qv_lcle (C : Cx K cI cJ cc nL own rm) {a b off : Int} {tgt : Nat} (ha : rj a) (hb0 : rj b) (d0 : decode cc pc = .ok (.lcmp, 1)) (ht : ((pc + 1 : Nat) : Int) + off = (tgt : Int)) (d : decode cc (pc + 1) = .ok (.ifCond .le off, 3)) (h1 : a ≤ b → V K nL ws k n tgt lv st) (h2 : ¬ a ≤ b → V K nL ws k n (pc + 1 + 3) lv st) : V K nL ws k n pc lv (vj b :: vj a :: st) := by
  refine qv_lcmp C ha hb0 d0 ?_
  by_cases g1 : b < a
  · rw [if_pos g1]
    exact qv_ifle C (by omega) ht d (fun q => h1 (by omega)) (fun q => h2 (by omega))
  · rw [if_neg g1]
    by_cases g2 : a = b
    · rw [if_pos g2]
      exact qv_ifle C (by omega) ht d (fun q => h1 (by omega)) (fun q => h2 (by omega))
    · rw [if_neg g2]
      exact qv_ifle C (by omega) ht d (fun q => h1 (by omega)) (fun q => h2 (by omega))
theorem qv_iald (C : Cx K cI cJ cc nL own rm) {a N : Nat} {f : Nat → Nat} {z : Int} (q i : Nat) (hw : ws[q]? = some (ai cI a N f)) (hi : z = (i : Int)) (hin : i < N) (hN : N ≤ 2147483647) (d : decode cc pc = .ok (.iaload, 1)) (h : V K nL ws k n (pc + 1) lv (vi (f i : Nat) :: st)) : V K nL ws k n pc lv (vi z :: .ref a :: st) := by
  obtain ⟨p, l, e, R, s, m, args, below, meth, c, D, A, Q⟩ := K
  obtain ⟨hx, hb, hml, hown, hts, hK, hA, hR, hnw⟩ := C
  intro H locs ls hP hD hS hl
  subst hi
  refine va_iald hx hb hK hP q 0 hw rfl (zi_in hin hN) d ?_
  rw [zi_nat (by omega)]
  exact h H locs ls hP hD hS hl
theorem qv_lald (C : Cx K cI cJ cc nL own rm) {a N : Nat} {f : Nat → Nat} {z : Int} (q i : Nat) (hw : ws[q]? = some (aj cJ a N f)) (hi : z = (i : Int)) (hin : i < N) (hN : N ≤ 2147483647) (d : decode cc pc = .ok (.laload, 1)) (h : V K nL ws k n (pc + 1) lv (vj (f i : Nat) :: st)) : V K nL ws k n pc lv (vi z :: .ref a :: st) := by
  obtain ⟨p, l, e, R, s, m, args, below, meth, c, D, A, Q⟩ := K
  obtain ⟨hx, hb, hml, hown, hts, hK, hA, hR, hnw⟩ := C
  intro H locs ls hP hD hS hl
  subst hi
  refine va_lald hx hb hK hP q 1 hw rfl (zi_in hin hN) d ?_
  rw [zi_nat (by omega)]
  exact h H locs ls hP hD hS hl
theorem qv_iast (C : Cx K cI cJ cc nL own rm) {a N : Nat} {f : Nat → Nat} {y z : Int} {ws' : va_W} (q i x : Nat) (hw : ws[q]? = some (ai cI a N f)) (hi : z = (i : Int)) (hin : i < N) (hN : N ≤ 2147483647) (hy : y = (x : Int)) (hw2 : ws.set q (ai cI a N (un f i x)) = ws') (d : decode cc pc = .ok (.iastore, 1)) (h : V K nL ws' k n (pc + 1) lv st) : V K nL ws k n pc lv (vi y :: vi z :: .ref a :: st) := by
  obtain ⟨p, l, e, R, s, m, args, below, meth, c, D, A, Q⟩ := K
  obtain ⟨hx, hb, hml, hown, hts, hK, hA, hR, hnw⟩ := C
  intro H locs ls hP hD hS hl
  subst hi hy hw2
  refine va_iast hx hb hK hP hD hS q 0 hw rfl (zi_in hin hN) d (fun H1 locs1 hP1 hD1 hS1 => ?_)
  rw [zi_nat (by omega), un_i] at hP1 hD1
  exact h H1 locs1 ls hP1 hD1 hS1 hl
theorem qv_last (C : Cx K cI cJ cc nL own rm) {a N : Nat} {f : Nat → Nat} {y z : Int} {ws' : va_W} (q i x : Nat) (hw : ws[q]? = some (aj cJ a N f)) (hi : z = (i : Int)) (hin : i < N) (hN : N ≤ 2147483647) (hy : y = (x : Int)) (hw2 : ws.set q (aj cJ a N (un f i x)) = ws') (d : decode cc pc = .ok (.lastore, 1)) (h : V K nL ws' k n (pc + 1) lv st) : V K nL ws k n pc lv (vj y :: vi z :: .ref a :: st) := by
  obtain ⟨p, l, e, R, s, m, args, below, meth, c, D, A, Q⟩ := K
  obtain ⟨hx, hb, hml, hown, hts, hK, hA, hR, hnw⟩ := C
  intro H locs ls hP hD hS hl
  subst hi hy hw2
  refine va_last hx hb hK hP hD hS q 1 hw rfl (zi_in hin hN) d (fun H1 locs1 hP1 hD1 hS1 => ?_)
  rw [zi_nat (by omega), un_j] at hP1 hD1
  exact h H1 locs1 ls hP1 hD1 hS1 hl
theorem qv_alen (C : Cx K cI cJ cc nL own rm) {a N : Nat} {f : Nat → Nat} (q : Nat) (hw : ws[q]? = some (ai cI a N f)) (d : decode cc pc = .ok (.arraylength, 1)) (h : V K nL ws k n (pc + 1) lv (vi (N : Nat) :: st)) : V K nL ws k n pc lv (.ref a :: st) := by
  obtain ⟨p, l, e, R, s, m, args, below, meth, c, D, A, Q⟩ := K
  obtain ⟨hx, hb, hml, hown, hts, hK, hA, hR, hnw⟩ := C
  intro H locs ls hP hD hS hl
  exact va_alen hx hb hK hP q 0 hw rfl (zi_ofNat N) d (h H locs ls hP hD hS hl)
theorem qv_ti {K : Kx} {nL : Nat} {ws : va_W} {k n pc : Nat} {lv : List (Nat × Value)} {st : List Value} {z r : Int} (e : z = r) (h : V K nL ws k n pc lv (vi r :: st)) : V K nL ws k n pc lv (vi z :: st) := e ▸ h
theorem qv_tj {K : Kx} {nL : Nat} {ws : va_W} {k n pc : Nat} {lv : List (Nat × Value)} {st : List Value} {z r : Int} (e : z = r) (h : V K nL ws k n pc lv (vj r :: st)) : V K nL ws k n pc lv (vj z :: st) := e ▸ h
theorem qv_cgi {a N : Nat} {f g : Nat → Nat} {ws' : va_W} (q : Nat) (hw : ws[q]? = some (ai cI a N f)) (hfg : ∀ i, i < N → f i = g i) (hw2 : ws.set q (ai cI a N g) = ws') (h : V K nL ws' k n pc lv st) : V K nL ws k n pc lv st := by
  obtain ⟨p, l, e, R, s, m, args, below, meth, c, D, A, Q⟩ := K
  subst hw2
  intro H locs ls hP hD hS hl
  have h0 : H[a]? = some (arrV cI N (fun j => .int (zi (f j : Nat)))) := hP q _ hw
  have e : arrV cI N (fun j => Value.int (zi (f j : Nat))) = arrV cI N (fun j => .int (zi (g j : Nat))) := by
    unfold arrV
    have e1 : (fun j : Fin N => Value.int (zi (f j.val : Nat))) = fun j : Fin N => Value.int (zi (g j.val : Nat)) := funext fun j => by rw [hfg j.val j.isLt]
    rw [e1]
  rw [e] at h0
  exact h H locs ls (hP.set hD hw (show va_at D clz (ai cI a N g) H from h0) (fun _ _ => rfl)) (hD.set hw) hS hl
theorem qv_cgj {a N : Nat} {f g : Nat → Nat} {ws' : va_W} (q : Nat) (hw : ws[q]? = some (aj cJ a N f)) (hfg : ∀ i, i < N → f i = g i) (hw2 : ws.set q (aj cJ a N g) = ws') (h : V K nL ws' k n pc lv st) : V K nL ws k n pc lv st := by
  obtain ⟨p, l, e, R, s, m, args, below, meth, c, D, A, Q⟩ := K
  subst hw2
  intro H locs ls hP hD hS hl
  have h0 : H[a]? = some (arrV cJ N (fun j => .long (zj (f j : Nat)))) := hP q _ hw
  have e : arrV cJ N (fun j => Value.long (zj (f j : Nat))) = arrV cJ N (fun j => .long (zj (g j : Nat))) := by
    unfold arrV
    have e1 : (fun j : Fin N => Value.long (zj (f j.val : Nat))) = fun j : Fin N => Value.long (zj (g j.val : Nat)) := funext fun j => by rw [hfg j.val j.isLt]
    rw [e1]
  rw [e] at h0
  exact h H locs ls (hP.set hD hw (show va_at D clz (aj cJ a N g) H from h0) (fun _ _ => rfl)) (hD.set hw) hS hl
end Layer
end
section
/-! fields, contracts, calls, ends -/
theorem isN_cases {w : Cond} (h : isN w = true) : (∃ a i b x d y, w = .fieldLinkNest a i b x d y) ∨ ∃ a i x y, w = .methodLinkNest a i x y := by
  cases w <;> first | exact Or.inl ⟨_, _, _, _, _, _, rfl⟩ | exact Or.inr ⟨_, _, _, _, rfl⟩ | cases h
theorem nw_warm {s U : State} (hW : s.WarmedH U.vm) (h : ∀ w ∈ nl, va_Nw w s) : ∀ w ∈ nl, va_Nw w U := by
  intro w hw
  rcases isN_cases (List.mem_filter.mp hw).2 with ⟨a, i, b, x, d, y, rfl⟩ | ⟨a, i, x, y, rfl⟩
  · exact va_Nw.warmF hW (h _ hw)
  · exact va_Nw.warmM hW (h _ hw)
theorem nw_same {s U : State} (hv : s.vm = U.vm) (h : ∀ w ∈ nl, va_Nw w s) : ∀ w ∈ nl, va_Nw w U := by
  intro w hw
  rcases isN_cases (List.mem_filter.mp hw).2 with ⟨a, i, b, x, d, y, rfl⟩ | ⟨a, i, x, y, rfl⟩
  · exact va_Nw.same rfl hv (h _ hw)
  · exact va_Nw.same rfl hv (h _ hw)
theorem al_good {w : Cond} (h : w ∈ al) : (w.onTables && w.keeps) = true ∨ ∃ ty, w = .arrayClass ty := by
  have h1 : goodWord w = true := (List.mem_filter.mp h).2
  cases w <;> first | exact Or.inr ⟨_, rfl⟩ | exact Or.inl h1
theorem al_in {ws : List Cond} (h : ∀ w ∈ ws, w ∈ al) : GoodIn al ws := fun w hw => ⟨h w hw, al_good (h w hw)⟩
abbrev Xt : (Nat → Prop) → State → Prop := fun _ _ => True
def Fl (own : String) (ix ci j : Nat) : Prop := ∃ (C : String) (T : u_T) (N : Nat), clz[ci]? = some (C, T, N) ∧ j < N ∧ (T j).1 = C ∧ (∀ w ∈ u_ws C T N, w ∈ al) ∧ (Cond.fieldLink own ix C (T j).2.1 (T j).2.2.1 ∈ al ∨ ∃ host, Cond.fieldLinkNest own ix C (T j).2.1 (T j).2.2.1 host ∈ nl)
def Fs (ci j : Nat) (ty : FieldType) (fin : Bool) : Prop := ∃ (C : String) (T : u_T) (N : Nat) (ty0 : Nat → FieldType), clz[ci]? = some (C, T, N) ∧ (∀ i, i < N → parseFieldDescriptor (T i).2.2.1 = some (ty0 i)) ∧ (∀ a, a < N → ∀ b, b < N → a ≠ b → (T a).2.1 ≠ (T b).2.1) ∧ (T j).2.2.2 = fin ∧ parseFieldDescriptor (T j).2.2.1 = some ty
section Fields
variable {K : Kx} {cI cJ : ClassId} {cc : ByteArray} {nL : Nat} {own : String} {rm : Room} {ws : va_W} {k n pc : Nat} {lv : List (Nat × Value)} {st : List Value}
theorem qv_get (C : Cx K cI cJ cc nL own rm) {ix ci j a : Nat} {fs : List Value} {v : Value} (hf : Fl own ix ci j) (q : Nat) (hw : ws[q]? = some (oc a ci fs)) (hv : fs[j]? = some v) (d : decode cc pc = .ok (.getfield ix, 3)) (h : V K nL ws k n (pc + 3) lv (v :: st)) : V K nL ws k n pc lv (.ref a :: st) := by
  obtain ⟨p, l, e, R, s, m, args, below, meth, c, D, A, Q⟩ := K
  obtain ⟨hx, hb, hml, hown, hts, hK, hA, hR, hnw⟩ := C
  obtain ⟨C, T, N, hc, hj, ho, hu, hlk⟩ := hf
  intro H locs ls hP hD hS hl
  have hs : ∀ x, s.fieldFound? (T j).1 (T j).2.1 (T j).2.2.1 = some x → s.fieldFound? C (T j).2.1 (T j).2.2.1 = some x := by rw [ho]; exact fun _ h => h
  rcases hlk with hlk | ⟨host, hlk⟩
  · exact va_get hx hb hts hu hown hK hP q hw hc j hj (hts _ hlk) hs hv d (h H locs ls hP hD hS hl)
  · exact va_getN hx hb hts hu hown hK hP q hw hc j hj (va_Nw.use rfl (hnw _ hlk)) hs hv d (h H locs ls hP hD hS hl)
theorem qv_put (C : Cx K cI cJ cc nL own rm) {ix ci j a : Nat} {fs : List Value} {v : Value} {ty : FieldType} {ws' : va_W} (hf : Fl own ix ci j) (hs0 : Fs ci j ty false) (q : Nat) (hw : ws[q]? = some (oc a ci fs)) (hn : narrow ty v = v) (hfit : fits ty v = true) (hl0 : j < fs.length) (hw2 : ws.set q (oc a ci (fs.set j v)) = ws') (d : decode cc pc = .ok (.putfield ix, 3)) (h : V K nL ws' k n (pc + 3) lv st) : V K nL ws k n pc lv (v :: .ref a :: st) := by
  obtain ⟨p, l, e, R, s, m, args, below, meth, c, D, A, Q⟩ := K
  obtain ⟨hx, hb, hml, hown, hts, hK, hA, hR, hnw⟩ := C
  obtain ⟨C, T, N, hc, hj, ho, hu, hlk⟩ := hf
  obtain ⟨C', T', N', ty0, hc', hty, hnm, hfin, hpd⟩ := hs0
  rw [hc] at hc'
  cases hc'
  subst hw2
  intro H locs ls hP hD hS hl
  have hs : ∀ x, s.fieldFound? (T j).1 (T j).2.1 (T j).2.2.1 = some x → s.fieldFound? C (T j).2.1 (T j).2.2.1 = some x := by rw [ho]; exact fun _ h => h
  rcases hlk with hlk | ⟨host, hlk⟩
  · exact va_put hx hb hts hu ty0 hty hnm hown hK hP hD hS q hw hc j hj (hts _ hlk) hs hfin hpd hn hfit hl0 d (fun H1 locs1 hP1 hD1 hS1 => h H1 locs1 ls hP1 hD1 hS1 hl)
  · exact va_putN hx hb hts hu ty0 hty hnm hown hK hP hD hS q hw hc j hj (va_Nw.use rfl (hnw _ hlk)) hs hfin hpd hn hfit hl0 d (fun H1 locs1 hP1 hD1 hS1 => h H1 locs1 ls hP1 hD1 hS1 hl)
def Nm (K : Kx) (nm : String) : Prop := K.2.2.2.2.2.2.2.2.1.name = nm
theorem qv_putF (C : Cx K cI cJ cc nL own rm) (hN : Nm K "<init>") {ix ci j a : Nat} {fs : List Value} {v : Value} {ty : FieldType} {ws' : va_W} {F : u_T} {N : Nat} (hf : Cond.fieldLink own ix own (F j).2.1 (F j).2.2.1 ∈ al) (hu : ∀ w ∈ u_ws own F N, w ∈ al) (hc : clz[ci]? = some (own, F, N)) (hj : j < N) (ho : (F j).1 = own) (hs0 : Fs ci j ty true) (q : Nat) (hw : ws[q]? = some (oc a ci fs)) (hn : narrow ty v = v) (hfit : fits ty v = true) (hl0 : j < fs.length) (hw2 : ws.set q (oc a ci (fs.set j v)) = ws') (d : decode cc pc = .ok (.putfield ix, 3)) (h : V K nL ws' k n (pc + 3) lv st) : V K nL ws k n pc lv (v :: .ref a :: st) := by
  obtain ⟨p, l, e, R, s, m, args, below, meth, c, D, A, Q⟩ := K
  obtain ⟨hx, hb, hml, hown, hts, hK, hA, hR, hnw⟩ := C
  obtain ⟨C', T', N', ty0, hc', hty, hnm, hfin, hpd⟩ := hs0
  rw [hc] at hc'
  cases hc'
  subst hw2
  intro H locs ls hP hD hS hl
  have hs : ∀ x, s.fieldFound? (F j).1 (F j).2.1 (F j).2.2.1 = some x → s.fieldFound? own (F j).2.1 (F j).2.2.1 = some x := by rw [ho]; exact fun _ h => h
  exact va_putF hx hb hts hu ty0 hty hnm hown hK hP hD hS q hw hc j hj (hts _ hf) hs hfin hN ho hpd hn hfit hl0 d (fun H1 locs1 hP1 hD1 hS1 => h H1 locs1 ls hP1 hD1 hS1 hl)
end Fields
def Pre (D : va_G) (cI cJ : ClassId) (X : (Nat → Prop) → State → Prop) (sz : Nat) (wc : va_W) (U : State) : Prop := U.heap.size = sz ∧ va_P D clz wc U.heap ∧ va_K D clz [(cI, .int), (cJ, .long)] U ∧ va_D (fun _ => True) wc ∧ (∀ w ∈ nl, va_Nw w U) ∧ X (va_A wc sz) U
def Xk (K : Kx) (X : (Nat → Prop) → State → Prop) : Prop := X K.2.2.2.2.2.2.2.2.2.2.2.1 K.2.2.2.2.1
/-- what a caller owes of the callee's X -/
def Xok (K : Kx) (X : (Nat → Prop) → State → Prop) : Prop :=
  match K with
  | (_, _, _, _, s, _, _, _, _, _, _, A, _) => ∀ (H : Heap) (locs : List Loc) (B : Nat → Prop) (U : State), va_S A s.heap H locs → (∀ q, B q → A q) → U.heap = H → s.WarmedH U.vm → X B U
def Xbl (X : (Nat → Prop) → State → Prop) : Prop := ∀ (A : Nat → Prop) (U : State) (g : JFrame) (mk : MethodId) (a : Array Value), X A U → X A (U.calling g mk a)
theorem Xok_t (K : Kx) : Xok K Xt := by
  obtain ⟨p, l, e, R, s, m, args, below, meth, c, D, A, Q⟩ := K
  exact fun _ _ _ _ _ _ _ _ => trivial
theorem Xbl_t : Xbl Xt := fun _ _ _ _ _ _ => trivial
def Cl (own : String) (ix : Nat) (y : MethodName) (np : Nat) : Prop := (Cond.methodLink own ix y ∈ al ∨ ∃ host, Cond.methodLinkNest own ix y host ∈ nl) ∧ Cond.initialized y.cls ∈ al ∧ y.cls ≠ "java/lang/invoke/MethodHandle" ∧ y.cls ≠ "java/lang/invoke/VarHandle" ∧ (parseMethodDescriptor y.desc).map (fun d => d.parameters.length) = some np
def ClV (own : String) (ix : Nat) (y : MethodName) (np : Nat) : Prop := Cl own ix y np ∧ Cond.instanceMethod y ∈ al ∧ Cond.selects y.cls y y ∈ al
def ClS (own : String) (ix : Nat) (y : MethodName) (np : Nat) : Prop := Cl own ix y np ∧ Cond.static y ∈ al
def ClI (own : String) (ix : Nat) (y : MethodName) (np : Nat) : Prop := Cl own ix y np ∧ Cond.instanceMethod y ∈ al ∧ y.name = "<init>"
def MtI (cI cJ : ClassId) (y : MethodName) (cc : ByteArray) (nL : Nat) (ret : FieldType) (rm : Room) (X : (Nat → Prop) → State → Prop) (av : List Value) (wc : va_W) (post : Int → va_W → Prop) : Prop := ∀ (l : Launch) (D : va_G) (sz : Nat), Met l y (.code y cc nL (some ret) :: al) rm (va_Pc av (Pre D cI cJ X sz wc)) (va_Qi (fun r u => ∃ z : Int, r = zi z ∧ post z u) (fun u t => va_P D clz u t.heap ∧ va_D (va_A wc sz) u) (va_A wc sz)) rm.cells rm.slots (va_A wc sz)
def RtI (K : Kx) (ret : FieldType) (mc ms : Nat) (post : Int → va_W → Prop) : Prop :=
  match K with
  | (_, _, _, _, s, _, args, below, meth, _, D, A, Q) => meth.sig.returnType = (some ret) ∧ meth.locks = false ∧ Q = MQ below (va_Qi (fun r u => ∃ z : Int, r = zi z ∧ post z u) (fun u t => va_P D clz u t.heap ∧ va_D A u) A) args s mc ms A
theorem MtI_in {cI cJ : ClassId} {y : MethodName} {cc : ByteArray} {nL : Nat} {ret : FieldType} {rm : Room} {X : (Nat → Prop) → State → Prop} {av : List Value} {wc : va_W} {post : Int → va_W → Prop} (hy : plainName y.cls = true) (hlen : (lg_sl av).length ≤ nL)
    (h : ∀ K : Kx, Cx K cI cJ cc nL y.cls rm → RtI K ret rm.cells rm.slots post → Xk K X → Nm K y.name → V K nL wc 0 0 0 (lv_args 0 av) []) : MtI cI cJ y cc nL ret rm X av wc post := by
  intro l D sz
  refine Met.ofW (cc := cc) (maxL := nL) (ret := (some ret)) hy rfl ?_
  intro p e s m args below meth c s₁ B hml hv
  obtain ⟨rfl, hsz, hP, hK, hD0, hnw, hX⟩ := hv
  have hts := atoms_spec (ws := Cond.code y cc nL (some ret) :: al) B.pre
  have hown : s.vm.findClass y.cls = some m.cls := findClass_of_methodNamed B.named
  have hnm : meth.name = y.name := (name_of_methodNamed B.named B.method).1
  subst hsz
  have hD := hD0.self (sz := s.heap.size)
  have hl := lv_entry av (n := nL) hlen
  rw [lg_entry_eq]
  exact h (p, l, e, rm, s, m, av.toArray, below, meth, c, D, va_A wc s.heap.size, _) ⟨B.exec, B.bytes, hml, hown, fun w hw => hts w (List.mem_cons_of_mem _ hw), hK, fun q hq => Or.inr hq, rfl, hnw⟩ ⟨B.returns, B.notSynchronized, rfl⟩ hX hnm s.heap [] _ hP hD va_S.rf hl
def MtJ (cI cJ : ClassId) (y : MethodName) (cc : ByteArray) (nL : Nat) (rm : Room) (X : (Nat → Prop) → State → Prop) (av : List Value) (wc : va_W) (post : Int → va_W → Prop) : Prop := ∀ (l : Launch) (D : va_G) (sz : Nat), Met l y (.code y cc nL (some .long) :: al) rm (va_Pc av (Pre D cI cJ X sz wc)) (va_Ql (fun r u => ∃ z : Int, r = zj z ∧ post z u) (fun u t => va_P D clz u t.heap ∧ va_D (va_A wc sz) u) (va_A wc sz)) rm.cells rm.slots (va_A wc sz)
def RtJ (K : Kx) (mc ms : Nat) (post : Int → va_W → Prop) : Prop :=
  match K with
  | (_, _, _, _, s, _, args, below, meth, _, D, A, Q) => meth.sig.returnType = (some .long) ∧ meth.locks = false ∧ Q = MQ below (va_Ql (fun r u => ∃ z : Int, r = zj z ∧ post z u) (fun u t => va_P D clz u t.heap ∧ va_D A u) A) args s mc ms A
theorem MtJ_in {cI cJ : ClassId} {y : MethodName} {cc : ByteArray} {nL : Nat} {rm : Room} {X : (Nat → Prop) → State → Prop} {av : List Value} {wc : va_W} {post : Int → va_W → Prop} (hy : plainName y.cls = true) (hlen : (lg_sl av).length ≤ nL)
    (h : ∀ K : Kx, Cx K cI cJ cc nL y.cls rm → RtJ K rm.cells rm.slots post → Xk K X → Nm K y.name → V K nL wc 0 0 0 (lv_args 0 av) []) : MtJ cI cJ y cc nL rm X av wc post := by
  intro l D sz
  refine Met.ofW (cc := cc) (maxL := nL) (ret := (some .long)) hy rfl ?_
  intro p e s m args below meth c s₁ B hml hv
  obtain ⟨rfl, hsz, hP, hK, hD0, hnw, hX⟩ := hv
  have hts := atoms_spec (ws := Cond.code y cc nL (some .long) :: al) B.pre
  have hown : s.vm.findClass y.cls = some m.cls := findClass_of_methodNamed B.named
  have hnm : meth.name = y.name := (name_of_methodNamed B.named B.method).1
  subst hsz
  have hD := hD0.self (sz := s.heap.size)
  have hl := lv_entry av (n := nL) hlen
  rw [lg_entry_eq]
  exact h (p, l, e, rm, s, m, av.toArray, below, meth, c, D, va_A wc s.heap.size, _) ⟨B.exec, B.bytes, hml, hown, fun w hw => hts w (List.mem_cons_of_mem _ hw), hK, fun q hq => Or.inr hq, rfl, hnw⟩ ⟨B.returns, B.notSynchronized, rfl⟩ hX hnm s.heap [] _ hP hD va_S.rf hl
def MtV (cI cJ : ClassId) (y : MethodName) (cc : ByteArray) (nL : Nat) (rm : Room) (X : (Nat → Prop) → State → Prop) (av : List Value) (wc : va_W) (post : va_W → Prop) : Prop := ∀ (l : Launch) (D : va_G) (sz : Nat), Met l y (.code y cc nL none :: al) rm (va_Pc av (Pre D cI cJ X sz wc)) (va_Qv (fun u => post u) (fun u t => va_P D clz u t.heap ∧ va_D (va_A wc sz) u) (va_A wc sz)) rm.cells rm.slots (va_A wc sz)
def RtV (K : Kx) (mc ms : Nat) (post : va_W → Prop) : Prop :=
  match K with
  | (_, _, _, _, s, _, args, below, meth, _, D, A, Q) => meth.sig.returnType = none ∧ meth.locks = false ∧ Q = MQ below (va_Qv (fun u => post u) (fun u t => va_P D clz u t.heap ∧ va_D A u) A) args s mc ms A
theorem MtV_in {cI cJ : ClassId} {y : MethodName} {cc : ByteArray} {nL : Nat} {rm : Room} {X : (Nat → Prop) → State → Prop} {av : List Value} {wc : va_W} {post : va_W → Prop} (hy : plainName y.cls = true) (hlen : (lg_sl av).length ≤ nL)
    (h : ∀ K : Kx, Cx K cI cJ cc nL y.cls rm → RtV K rm.cells rm.slots post → Xk K X → Nm K y.name → V K nL wc 0 0 0 (lv_args 0 av) []) : MtV cI cJ y cc nL rm X av wc post := by
  intro l D sz
  refine Met.ofW (cc := cc) (maxL := nL) (ret := none) hy rfl ?_
  intro p e s m args below meth c s₁ B hml hv
  obtain ⟨rfl, hsz, hP, hK, hD0, hnw, hX⟩ := hv
  have hts := atoms_spec (ws := Cond.code y cc nL none :: al) B.pre
  have hown : s.vm.findClass y.cls = some m.cls := findClass_of_methodNamed B.named
  have hnm : meth.name = y.name := (name_of_methodNamed B.named B.method).1
  subst hsz
  have hD := hD0.self (sz := s.heap.size)
  have hl := lv_entry av (n := nL) hlen
  rw [lg_entry_eq]
  exact h (p, l, e, rm, s, m, av.toArray, below, meth, c, D, va_A wc s.heap.size, _) ⟨B.exec, B.bytes, hml, hown, fun w hw => hts w (List.mem_cons_of_mem _ hw), hK, fun q hq => Or.inr hq, rfl, hnw⟩ ⟨B.returns, B.notSynchronized, rfl⟩ hX hnm s.heap [] _ hP hD va_S.rf hl
theorem qv_iret {K : Kx} {cI cJ : ClassId} {cc : ByteArray} {nL : Nat} {own : String} {rm : Room} {ws : va_W} {k n pc : Nat} {lv : List (Nat × Value)} (C : Cx K cI cJ cc nL own rm) {mc ms : Nat} {post : Int → va_W → Prop} (hRt : RtI K .int mc ms post) {z : Int} (hp : post z ws) (d : decode cc pc = .ok (.ireturn, 1)) (hk : k ≤ mc) (hs : n ≤ ms) : V K nL ws k n pc lv [vi z] := by
  obtain ⟨p, l, e, R, s, m, args, below, meth, c, D, A, Q⟩ := K
  obtain ⟨hx, hb, hml, hown, hts, hK, hA, hR, hnw⟩ := C
  obtain ⟨hr, hlocks, rfl⟩ := hRt
  intro H locs ls hP hD hS hl
  refine W.widen hk hs ?_
  exact W.iret (v := zi z) hx hb hr (fun t ht hW => ⟨⟨zi z, ws, rfl, ⟨z, rfl, hp⟩, by rw [ht]; exact hP, hD⟩, hS.F ht⟩) hS.2.2 d
theorem qv_zret {K : Kx} {cI cJ : ClassId} {cc : ByteArray} {nL : Nat} {own : String} {rm : Room} {ws : va_W} {k n pc : Nat} {lv : List (Nat × Value)} (C : Cx K cI cJ cc nL own rm) {mc ms : Nat} {post : Int → va_W → Prop} (hRt : RtI K .boolean mc ms post) {b : Bool} (hp : post (b2 b) ws) (d : decode cc pc = .ok (.ireturn, 1)) (hk : k ≤ mc) (hs : n ≤ ms) : V K nL ws k n pc lv [vi (b2 b)] := by
  obtain ⟨p, l, e, R, s, m, args, below, meth, c, D, A, Q⟩ := K
  obtain ⟨hx, hb, hml, hown, hts, hK, hA, hR, hnw⟩ := C
  obtain ⟨hr, hlocks, rfl⟩ := hRt
  intro H locs ls hP hD hS hl
  refine W.widen hk hs ?_
  exact W.zret (v := zi (b2 b)) hx hb hr (by cases b <;> rfl) (fun t ht hW => ⟨⟨zi (b2 b), ws, rfl, ⟨b2 b, rfl, hp⟩, by rw [ht]; exact hP, hD⟩, hS.F ht⟩) hS.2.2 d
theorem qv_lret {K : Kx} {cI cJ : ClassId} {cc : ByteArray} {nL : Nat} {own : String} {rm : Room} {ws : va_W} {k n pc : Nat} {lv : List (Nat × Value)} (C : Cx K cI cJ cc nL own rm) {mc ms : Nat} {post : Int → va_W → Prop} (hRt : RtJ K mc ms post) {z : Int} (hp : post z ws) (d : decode cc pc = .ok (.lreturn, 1)) (hk : k ≤ mc) (hs : n ≤ ms) : V K nL ws k n pc lv [vj z] := by
  obtain ⟨p, l, e, R, s, m, args, below, meth, c, D, A, Q⟩ := K
  obtain ⟨hx, hb, hml, hown, hts, hK, hA, hR, hnw⟩ := C
  obtain ⟨hr, hlocks, rfl⟩ := hRt
  intro H locs ls hP hD hS hl
  refine W.widen hk hs ?_
  exact W.lret (v := zj z) hx hb hr (fun t ht hW => ⟨⟨zj z, ws, rfl, ⟨z, rfl, hp⟩, by rw [ht]; exact hP, hD⟩, hS.F ht⟩) hS.2.2 d
theorem qv_vret {K : Kx} {cI cJ : ClassId} {cc : ByteArray} {nL : Nat} {own : String} {rm : Room} {ws : va_W} {k n pc : Nat} {lv : List (Nat × Value)} (C : Cx K cI cJ cc nL own rm) {mc ms : Nat} {post : va_W → Prop} (hRt : RtV K mc ms post) (hp : post ws) (d : decode cc pc = .ok (.return_, 1)) (hk : k ≤ mc) (hs : n ≤ ms) : V K nL ws k n pc lv [] := by
  obtain ⟨p, l, e, R, s, m, args, below, meth, c, D, A, Q⟩ := K
  obtain ⟨hx, hb, hml, hown, hts, hK, hA, hR, hnw⟩ := C
  obtain ⟨hr, hlocks, rfl⟩ := hRt
  intro H locs ls hP hD hS hl
  refine W.widen hk hs ?_
  exact W.vret hx hb hr (fun t ht hW => ⟨⟨ws, rfl, hp, by rw [ht]; exact hP, hD⟩, hS.F ht⟩) hS.2.2 d
theorem cl_B {R : Room} {s : State} {args : Array Value} {own : String} {ix : Nat} {y : MethodName} {np : Nat} {bytes : ByteArray} {maxL : Nat} {ret : Option FieldType} {rm : Room} (hts : ∀ w ∈ al, w.before args s = true) (hl : Cond.methodLink own ix y ∈ al) (hi : Cond.initialized y.cls ∈ al) (h1 : y.cls ≠ "java/lang/invoke/MethodHandle") (h2 : y.cls ≠ "java/lang/invoke/VarHandle") (h3 : (parseMethodDescriptor y.desc).map (fun d => d.parameters.length) = some np) (cd : Cond.code y bytes maxL ret ∈ al) (hR : rm.frames + 1 ≤ R.frames ∧ 8 + (maxL + 11) + rm.locals ≤ R.locals) : CallB R s args own ix y bytes maxL ret (.code y bytes maxL ret :: al) rm rm.cells rm.slots np := by
  refine ⟨rfl, rfl, hR.1, hR.2, ?_, List.mem_cons_self, hts _ cd, hts _ hi, ⟨h1, h2⟩, ?_, hts _ hl⟩
  · intro w hw a' U hW
    have hw2 : w ∈ al := by
      rcases List.mem_cons.mp hw with rfl | hw
      · exact cd
      · exact hw
    exact word_at hW (al_good hw2) (hts w hw2)
  · intro sig hs
    rw [hs] at h3
    exact (Option.some.inj h3).symm
theorem cl_N {R : Room} {s : State} {args : Array Value} {own host : String} {ix : Nat} {y : MethodName} {np : Nat} {bytes : ByteArray} {maxL : Nat} {ret : Option FieldType} {rm : Room} (hts : ∀ w ∈ al, w.before args s = true) (hl : va_Nw (.methodLinkNest own ix y host) s) (hi : Cond.initialized y.cls ∈ al) (h1 : y.cls ≠ "java/lang/invoke/MethodHandle") (h2 : y.cls ≠ "java/lang/invoke/VarHandle") (h3 : (parseMethodDescriptor y.desc).map (fun d => d.parameters.length) = some np) (cd : Cond.code y bytes maxL ret ∈ al) (hR : rm.frames + 1 ≤ R.frames ∧ 8 + (maxL + 11) + rm.locals ≤ R.locals) : va_CN R s args own ix y host bytes maxL ret (.code y bytes maxL ret :: al) rm rm.cells rm.slots np :=
  va_cnB np hts (al_in (fun w hw => by
    rcases List.mem_cons.mp hw with rfl | hw
    · exact cd
    · exact hw)) rfl rfl rfl hl (hts _ hi) ⟨h1, h2, h3⟩ hR
theorem pre_in {s : State} {H : Heap} {D : va_G} {cI cJ : ClassId} {X : (Nat → Prop) → State → Prop} {wc : va_W} {A : Nat → Prop} (av : List Value) (hb : Xbl X) (hX : ∀ U : State, U.heap = H → s.WarmedH U.vm → X (va_A wc H.size) U) (hP : va_P D clz wc H) (hD : va_D A wc) (hK : va_K D clz [(cI, .int), (cJ, .long)] s) (hnw : ∀ w ∈ nl, va_Nw w s) : PreS s H (va_Pc av (Pre D cI cJ X H.size wc)) av := by
  refine ⟨fun a U g mk q => ?_, fun U hU hW => ⟨rfl, by rw [hU], by rw [hU]; exact hP, va_K.moved hW.alike hK, hD.weaken (fun _ _ _ _ => trivial), nw_warm hW hnw, hX U hU hW⟩⟩
  obtain ⟨q0, q1, qP, qK, qD, qn, qX⟩ := q
  exact ⟨q0, q1, qP, va_K.moved (u := U) (U := U.calling g mk a) (Vm.Alike.refl U.vm) qK, qD, nw_same (s := U) (U := U.calling g mk a) rfl qn, hb _ _ _ _ _ qX⟩
theorem qc_vI {K : Kx} {cI cJ : ClassId} {cc : ByteArray} {nL : Nat} {own : String} {rm : Room} {ws : va_W} {k n pc : Nat} {lv : List (Nat × Value)} {st : List Value} (C : Cx K cI cJ cc nL own rm) {ix np : Nat} {y : MethodName} {cc' : ByteArray} {nL' : Nat} {ret : FieldType} {rm' : Room} {X : (Nat → Prop) → State → Prop} {b ci : Nat} {fs : List Value} {q0 : vw_C} {As : List Value} {wc wr : va_W} {post : Int → va_W → Prop} {st0 : List Value} (hc : ClV own ix y np) (cd : Cond.code y cc' nL' (some ret) ∈ al) (hM : MtI cI cJ y cc' nL' ret rm' X (.ref b :: As) wc post) (hX : Xok K X) (hXb : Xbl X)
    (isC isR : List Nat) (hC : isC.map (fun i => ws[i]?) = wc.map some) (hR : isR.map (fun i => ws[i]?) = wr.map some) (hnd : va_nd isC = true) (hn : va_nd isR = true) (hdis : ∀ i ∈ isR, i ∉ isC) (j : Nat) (hj : wc[j]? = some (oc b ci fs)) (hcl : clz[ci]? = some q0) (hq0 : q0.1 = y.cls) (hst : st0 = As.reverse ++ .ref b :: st) (hlen : As.length = np) (hroom : (st.map fun v => v.category).sum ≤ 8) (hfr : rm'.frames + 1 ≤ rm.frames ∧ 8 + (nL' + 11) + rm'.locals ≤ rm.locals) (hce : k + rm'.cells ≤ rm.cells ∧ n + rm'.slots ≤ rm.slots) (d : decode cc pc = .ok (.invokevirtual ix, 3)) (h : ∀ (z : Int) (u : va_W), post z u → V K nL (wr ++ u) (k + rm'.cells) (n + rm'.slots) (pc + 3) lv (vi z :: st)) : V K nL ws k n pc lv st0 := by
  obtain ⟨p, l, e, R, s, m, args, below, meth, c, D, A, Q⟩ := K
  obtain ⟨hx, hb, hml, hown, hts, hK, hA, rfl, hnw⟩ := C
  subst hst
  intro H locs ls hP hD hS hl
  have hDc := hD.sub isC hnd hC
  have hPc := hP.sub (ws' := wc) isC (by
    have h1 : ∀ (is : List Nat) (ws' : va_W), is.map (fun i => ws[i]?) = ws'.map some → is.filterMap (fun i => ws[i]?) = ws' := by
      intro is
      induction is with
      | nil => intro ws' h; cases ws' with
        | nil => rfl
        | cons a t => cases h
      | cons i is ih => intro ws' h; cases ws' with
        | nil => cases h
        | cons a t =>
          rw [List.map_cons, List.map_cons] at h
          injection h with h1 h2
          rw [List.filterMap_cons, h1]
          show a :: List.filterMap _ is = a :: t
          rw [ih t h2]
    exact h1 isC wc hC)
  have hFc := va_free (wc := wc) hD hS hA isC hC
  have hXc : ∀ U : State, U.heap = H → s.WarmedH U.vm → X (va_A wc H.size) U := fun U hU hW => hX H locs _ U hS hFc hU hW
  have hp := pre_in (s := s) (H := H) (D := D) (cI := cI) (cJ := cJ) (.ref b :: As) hXb hXc hPc hDc hK hnw
  obtain ⟨⟨hlk, hi, h1, h2, h3⟩, hin, hsel⟩ := hc
  have hrc := va_recv (s := s) hK hPc hcl hj
  rw [hq0] at hrc
  rcases hlk with hlk | ⟨host, hlk⟩
  · exact va_calli (va_runV (Ts := al) (As := As) (rest := st) (C := y.cls) ⟨hx, hb, hml, hown, hts⟩ (hM l D H.size) ⟨cl_B hts hlk hi h1 h2 h3 cd hfr, hts _ hin, hts _ hsel⟩ ⟨hp.1, hrc, hp.2⟩ rfl hlen hl.1 rfl (lv_room hroom) d hce) hS (fun q _ h => hFc q h) hFc (fun r u t H1 locs1 ht hvm hq hB hz1 hk1 hS1 => by
    obtain ⟨z, rfl, hp⟩ := hq
    obtain ⟨hP1, hD1⟩ := hB
    rw [ht] at hP1
    obtain ⟨hP2, hD2⟩ := va_join hP hD isC isR hC hR hn hdis hk1 hFc hP1 hD1
    exact h z u hp H1 locs1 ls hP2 hD2 hS1 hl)
  · exact va_calli (va_runVN (Ts := al) (As := As) (rest := st) (C := y.cls) (host := host) ⟨hx, hb, hml, hown, hts⟩ (hM l D H.size) ⟨cl_N hts (hnw _ hlk) hi h1 h2 h3 cd hfr, hts _ hin, hts _ hsel⟩ ⟨hp.1, hrc, hp.2⟩ rfl hlen hl.1 rfl (lv_room hroom) d hce) hS (fun q _ h => hFc q h) hFc (fun r u t H1 locs1 ht hvm hq hB hz1 hk1 hS1 => by
    obtain ⟨z, rfl, hp⟩ := hq
    obtain ⟨hP1, hD1⟩ := hB
    rw [ht] at hP1
    obtain ⟨hP2, hD2⟩ := va_join hP hD isC isR hC hR hn hdis hk1 hFc hP1 hD1
    exact h z u hp H1 locs1 ls hP2 hD2 hS1 hl)
theorem qc_sI {K : Kx} {cI cJ : ClassId} {cc : ByteArray} {nL : Nat} {own : String} {rm : Room} {ws : va_W} {k n pc : Nat} {lv : List (Nat × Value)} {st : List Value} (C : Cx K cI cJ cc nL own rm) {ix np : Nat} {y : MethodName} {cc' : ByteArray} {nL' : Nat} {ret : FieldType} {rm' : Room} {X : (Nat → Prop) → State → Prop} {As : List Value} {wc wr : va_W} {post : Int → va_W → Prop} {st0 : List Value} (hc : ClS own ix y np) (cd : Cond.code y cc' nL' (some ret) ∈ al) (hM : MtI cI cJ y cc' nL' ret rm' X As wc post) (hX : Xok K X) (hXb : Xbl X)
    (isC isR : List Nat) (hC : isC.map (fun i => ws[i]?) = wc.map some) (hR : isR.map (fun i => ws[i]?) = wr.map some) (hnd : va_nd isC = true) (hn : va_nd isR = true) (hdis : ∀ i ∈ isR, i ∉ isC) (hst : st0 = As.reverse ++ st) (hlen : As.length = np) (hroom : (st.map fun v => v.category).sum ≤ 8) (hfr : rm'.frames + 1 ≤ rm.frames ∧ 8 + (nL' + 11) + rm'.locals ≤ rm.locals) (hce : k + rm'.cells ≤ rm.cells ∧ n + rm'.slots ≤ rm.slots) (d : decode cc pc = .ok (.invokestatic ix, 3)) (h : ∀ (z : Int) (u : va_W), post z u → V K nL (wr ++ u) (k + rm'.cells) (n + rm'.slots) (pc + 3) lv (vi z :: st)) : V K nL ws k n pc lv st0 := by
  obtain ⟨p, l, e, R, s, m, args, below, meth, c, D, A, Q⟩ := K
  obtain ⟨hx, hb, hml, hown, hts, hK, hA, rfl, hnw⟩ := C
  subst hst
  intro H locs ls hP hD hS hl
  have hDc := hD.sub isC hnd hC
  have hPc := hP.sub (ws' := wc) isC (by
    have h1 : ∀ (is : List Nat) (ws' : va_W), is.map (fun i => ws[i]?) = ws'.map some → is.filterMap (fun i => ws[i]?) = ws' := by
      intro is
      induction is with
      | nil => intro ws' h; cases ws' with
        | nil => rfl
        | cons a t => cases h
      | cons i is ih => intro ws' h; cases ws' with
        | nil => cases h
        | cons a t =>
          rw [List.map_cons, List.map_cons] at h
          injection h with h1 h2
          rw [List.filterMap_cons, h1]
          show a :: List.filterMap _ is = a :: t
          rw [ih t h2]
    exact h1 isC wc hC)
  have hFc := va_free (wc := wc) hD hS hA isC hC
  have hXc : ∀ U : State, U.heap = H → s.WarmedH U.vm → X (va_A wc H.size) U := fun U hU hW => hX H locs _ U hS hFc hU hW
  have hp := pre_in (s := s) (H := H) (D := D) (cI := cI) (cJ := cJ) As hXb hXc hPc hDc hK hnw
  obtain ⟨⟨hlk, hi, h1, h2, h3⟩, hsta⟩ := hc
  rcases hlk with hlk | ⟨host, hlk⟩
  · exact va_calli (va_runS (Ts := al) (As := As) (rest := st) ⟨hx, hb, hml, hown, hts⟩ (hM l D H.size) ⟨cl_B hts hlk hi h1 h2 h3 cd hfr, hts _ hsta⟩ hp rfl hlen hl.1 rfl (lv_room hroom) d hce) hS (fun q _ h => hFc q h) hFc (fun r u t H1 locs1 ht hvm hq hB hz1 hk1 hS1 => by
    obtain ⟨z, rfl, hp⟩ := hq
    obtain ⟨hP1, hD1⟩ := hB
    rw [ht] at hP1
    obtain ⟨hP2, hD2⟩ := va_join hP hD isC isR hC hR hn hdis hk1 hFc hP1 hD1
    exact h z u hp H1 locs1 ls hP2 hD2 hS1 hl)
  · exact va_calli (va_runSN (Ts := al) (As := As) (rest := st) (host := host) ⟨hx, hb, hml, hown, hts⟩ (hM l D H.size) ⟨cl_N hts (hnw _ hlk) hi h1 h2 h3 cd hfr, hts _ hsta, trivial⟩ hp rfl hlen hl.1 rfl (lv_room hroom) d hce) hS (fun q _ h => hFc q h) hFc (fun r u t H1 locs1 ht hvm hq hB hz1 hk1 hS1 => by
    obtain ⟨z, rfl, hp⟩ := hq
    obtain ⟨hP1, hD1⟩ := hB
    rw [ht] at hP1
    obtain ⟨hP2, hD2⟩ := va_join hP hD isC isR hC hR hn hdis hk1 hFc hP1 hD1
    exact h z u hp H1 locs1 ls hP2 hD2 hS1 hl)
theorem qc_vJ {K : Kx} {cI cJ : ClassId} {cc : ByteArray} {nL : Nat} {own : String} {rm : Room} {ws : va_W} {k n pc : Nat} {lv : List (Nat × Value)} {st : List Value} (C : Cx K cI cJ cc nL own rm) {ix np : Nat} {y : MethodName} {cc' : ByteArray} {nL' : Nat} {rm' : Room} {X : (Nat → Prop) → State → Prop} {b ci : Nat} {fs : List Value} {q0 : vw_C} {As : List Value} {wc wr : va_W} {post : Int → va_W → Prop} {st0 : List Value} (hc : ClV own ix y np) (cd : Cond.code y cc' nL' (some .long) ∈ al) (hM : MtJ cI cJ y cc' nL' rm' X (.ref b :: As) wc post) (hX : Xok K X) (hXb : Xbl X)
    (isC isR : List Nat) (hC : isC.map (fun i => ws[i]?) = wc.map some) (hR : isR.map (fun i => ws[i]?) = wr.map some) (hnd : va_nd isC = true) (hn : va_nd isR = true) (hdis : ∀ i ∈ isR, i ∉ isC) (j : Nat) (hj : wc[j]? = some (oc b ci fs)) (hcl : clz[ci]? = some q0) (hq0 : q0.1 = y.cls) (hst : st0 = As.reverse ++ .ref b :: st) (hlen : As.length = np) (hroom : (st.map fun v => v.category).sum ≤ 8) (hfr : rm'.frames + 1 ≤ rm.frames ∧ 8 + (nL' + 11) + rm'.locals ≤ rm.locals) (hce : k + rm'.cells ≤ rm.cells ∧ n + rm'.slots ≤ rm.slots) (d : decode cc pc = .ok (.invokevirtual ix, 3)) (h : ∀ (z : Int) (u : va_W), post z u → V K nL (wr ++ u) (k + rm'.cells) (n + rm'.slots) (pc + 3) lv (vj z :: st)) : V K nL ws k n pc lv st0 := by
  obtain ⟨p, l, e, R, s, m, args, below, meth, c, D, A, Q⟩ := K
  obtain ⟨hx, hb, hml, hown, hts, hK, hA, rfl, hnw⟩ := C
  subst hst
  intro H locs ls hP hD hS hl
  have hDc := hD.sub isC hnd hC
  have hPc := hP.sub (ws' := wc) isC (by
    have h1 : ∀ (is : List Nat) (ws' : va_W), is.map (fun i => ws[i]?) = ws'.map some → is.filterMap (fun i => ws[i]?) = ws' := by
      intro is
      induction is with
      | nil => intro ws' h; cases ws' with
        | nil => rfl
        | cons a t => cases h
      | cons i is ih => intro ws' h; cases ws' with
        | nil => cases h
        | cons a t =>
          rw [List.map_cons, List.map_cons] at h
          injection h with h1 h2
          rw [List.filterMap_cons, h1]
          show a :: List.filterMap _ is = a :: t
          rw [ih t h2]
    exact h1 isC wc hC)
  have hFc := va_free (wc := wc) hD hS hA isC hC
  have hXc : ∀ U : State, U.heap = H → s.WarmedH U.vm → X (va_A wc H.size) U := fun U hU hW => hX H locs _ U hS hFc hU hW
  have hp := pre_in (s := s) (H := H) (D := D) (cI := cI) (cJ := cJ) (.ref b :: As) hXb hXc hPc hDc hK hnw
  obtain ⟨⟨hlk, hi, h1, h2, h3⟩, hin, hsel⟩ := hc
  have hrc := va_recv (s := s) hK hPc hcl hj
  rw [hq0] at hrc
  rcases hlk with hlk | ⟨host, hlk⟩
  · exact va_calll (va_runV (Ts := al) (As := As) (rest := st) (C := y.cls) ⟨hx, hb, hml, hown, hts⟩ (hM l D H.size) ⟨cl_B hts hlk hi h1 h2 h3 cd hfr, hts _ hin, hts _ hsel⟩ ⟨hp.1, hrc, hp.2⟩ rfl hlen hl.1 rfl (lv_room hroom) d hce) hS (fun q _ h => hFc q h) hFc (fun r u t H1 locs1 ht hvm hq hB hz1 hk1 hS1 => by
    obtain ⟨z, rfl, hp⟩ := hq
    obtain ⟨hP1, hD1⟩ := hB
    rw [ht] at hP1
    obtain ⟨hP2, hD2⟩ := va_join hP hD isC isR hC hR hn hdis hk1 hFc hP1 hD1
    exact h z u hp H1 locs1 ls hP2 hD2 hS1 hl)
  · exact va_calll (va_runVN (Ts := al) (As := As) (rest := st) (C := y.cls) (host := host) ⟨hx, hb, hml, hown, hts⟩ (hM l D H.size) ⟨cl_N hts (hnw _ hlk) hi h1 h2 h3 cd hfr, hts _ hin, hts _ hsel⟩ ⟨hp.1, hrc, hp.2⟩ rfl hlen hl.1 rfl (lv_room hroom) d hce) hS (fun q _ h => hFc q h) hFc (fun r u t H1 locs1 ht hvm hq hB hz1 hk1 hS1 => by
    obtain ⟨z, rfl, hp⟩ := hq
    obtain ⟨hP1, hD1⟩ := hB
    rw [ht] at hP1
    obtain ⟨hP2, hD2⟩ := va_join hP hD isC isR hC hR hn hdis hk1 hFc hP1 hD1
    exact h z u hp H1 locs1 ls hP2 hD2 hS1 hl)
theorem qc_sJ {K : Kx} {cI cJ : ClassId} {cc : ByteArray} {nL : Nat} {own : String} {rm : Room} {ws : va_W} {k n pc : Nat} {lv : List (Nat × Value)} {st : List Value} (C : Cx K cI cJ cc nL own rm) {ix np : Nat} {y : MethodName} {cc' : ByteArray} {nL' : Nat} {rm' : Room} {X : (Nat → Prop) → State → Prop} {As : List Value} {wc wr : va_W} {post : Int → va_W → Prop} {st0 : List Value} (hc : ClS own ix y np) (cd : Cond.code y cc' nL' (some .long) ∈ al) (hM : MtJ cI cJ y cc' nL' rm' X As wc post) (hX : Xok K X) (hXb : Xbl X)
    (isC isR : List Nat) (hC : isC.map (fun i => ws[i]?) = wc.map some) (hR : isR.map (fun i => ws[i]?) = wr.map some) (hnd : va_nd isC = true) (hn : va_nd isR = true) (hdis : ∀ i ∈ isR, i ∉ isC) (hst : st0 = As.reverse ++ st) (hlen : As.length = np) (hroom : (st.map fun v => v.category).sum ≤ 8) (hfr : rm'.frames + 1 ≤ rm.frames ∧ 8 + (nL' + 11) + rm'.locals ≤ rm.locals) (hce : k + rm'.cells ≤ rm.cells ∧ n + rm'.slots ≤ rm.slots) (d : decode cc pc = .ok (.invokestatic ix, 3)) (h : ∀ (z : Int) (u : va_W), post z u → V K nL (wr ++ u) (k + rm'.cells) (n + rm'.slots) (pc + 3) lv (vj z :: st)) : V K nL ws k n pc lv st0 := by
  obtain ⟨p, l, e, R, s, m, args, below, meth, c, D, A, Q⟩ := K
  obtain ⟨hx, hb, hml, hown, hts, hK, hA, rfl, hnw⟩ := C
  subst hst
  intro H locs ls hP hD hS hl
  have hDc := hD.sub isC hnd hC
  have hPc := hP.sub (ws' := wc) isC (by
    have h1 : ∀ (is : List Nat) (ws' : va_W), is.map (fun i => ws[i]?) = ws'.map some → is.filterMap (fun i => ws[i]?) = ws' := by
      intro is
      induction is with
      | nil => intro ws' h; cases ws' with
        | nil => rfl
        | cons a t => cases h
      | cons i is ih => intro ws' h; cases ws' with
        | nil => cases h
        | cons a t =>
          rw [List.map_cons, List.map_cons] at h
          injection h with h1 h2
          rw [List.filterMap_cons, h1]
          show a :: List.filterMap _ is = a :: t
          rw [ih t h2]
    exact h1 isC wc hC)
  have hFc := va_free (wc := wc) hD hS hA isC hC
  have hXc : ∀ U : State, U.heap = H → s.WarmedH U.vm → X (va_A wc H.size) U := fun U hU hW => hX H locs _ U hS hFc hU hW
  have hp := pre_in (s := s) (H := H) (D := D) (cI := cI) (cJ := cJ) As hXb hXc hPc hDc hK hnw
  obtain ⟨⟨hlk, hi, h1, h2, h3⟩, hsta⟩ := hc
  rcases hlk with hlk | ⟨host, hlk⟩
  · exact va_calll (va_runS (Ts := al) (As := As) (rest := st) ⟨hx, hb, hml, hown, hts⟩ (hM l D H.size) ⟨cl_B hts hlk hi h1 h2 h3 cd hfr, hts _ hsta⟩ hp rfl hlen hl.1 rfl (lv_room hroom) d hce) hS (fun q _ h => hFc q h) hFc (fun r u t H1 locs1 ht hvm hq hB hz1 hk1 hS1 => by
    obtain ⟨z, rfl, hp⟩ := hq
    obtain ⟨hP1, hD1⟩ := hB
    rw [ht] at hP1
    obtain ⟨hP2, hD2⟩ := va_join hP hD isC isR hC hR hn hdis hk1 hFc hP1 hD1
    exact h z u hp H1 locs1 ls hP2 hD2 hS1 hl)
  · exact va_calll (va_runSN (Ts := al) (As := As) (rest := st) (host := host) ⟨hx, hb, hml, hown, hts⟩ (hM l D H.size) ⟨cl_N hts (hnw _ hlk) hi h1 h2 h3 cd hfr, hts _ hsta, trivial⟩ hp rfl hlen hl.1 rfl (lv_room hroom) d hce) hS (fun q _ h => hFc q h) hFc (fun r u t H1 locs1 ht hvm hq hB hz1 hk1 hS1 => by
    obtain ⟨z, rfl, hp⟩ := hq
    obtain ⟨hP1, hD1⟩ := hB
    rw [ht] at hP1
    obtain ⟨hP2, hD2⟩ := va_join hP hD isC isR hC hR hn hdis hk1 hFc hP1 hD1
    exact h z u hp H1 locs1 ls hP2 hD2 hS1 hl)
theorem qc_vV {K : Kx} {cI cJ : ClassId} {cc : ByteArray} {nL : Nat} {own : String} {rm : Room} {ws : va_W} {k n pc : Nat} {lv : List (Nat × Value)} {st : List Value} (C : Cx K cI cJ cc nL own rm) {ix np : Nat} {y : MethodName} {cc' : ByteArray} {nL' : Nat} {rm' : Room} {X : (Nat → Prop) → State → Prop} {b ci : Nat} {fs : List Value} {q0 : vw_C} {As : List Value} {wc wr : va_W} {post : va_W → Prop} {st0 : List Value} (hc : ClV own ix y np) (cd : Cond.code y cc' nL' none ∈ al) (hM : MtV cI cJ y cc' nL' rm' X (.ref b :: As) wc post) (hX : Xok K X) (hXb : Xbl X)
    (isC isR : List Nat) (hC : isC.map (fun i => ws[i]?) = wc.map some) (hR : isR.map (fun i => ws[i]?) = wr.map some) (hnd : va_nd isC = true) (hn : va_nd isR = true) (hdis : ∀ i ∈ isR, i ∉ isC) (j : Nat) (hj : wc[j]? = some (oc b ci fs)) (hcl : clz[ci]? = some q0) (hq0 : q0.1 = y.cls) (hst : st0 = As.reverse ++ .ref b :: st) (hlen : As.length = np) (hroom : (st.map fun v => v.category).sum ≤ 8) (hfr : rm'.frames + 1 ≤ rm.frames ∧ 8 + (nL' + 11) + rm'.locals ≤ rm.locals) (hce : k + rm'.cells ≤ rm.cells ∧ n + rm'.slots ≤ rm.slots) (d : decode cc pc = .ok (.invokevirtual ix, 3)) (h : ∀ (u : va_W), post u → V K nL (wr ++ u) (k + rm'.cells) (n + rm'.slots) (pc + 3) lv st) : V K nL ws k n pc lv st0 := by
  obtain ⟨p, l, e, R, s, m, args, below, meth, c, D, A, Q⟩ := K
  obtain ⟨hx, hb, hml, hown, hts, hK, hA, rfl, hnw⟩ := C
  subst hst
  intro H locs ls hP hD hS hl
  have hDc := hD.sub isC hnd hC
  have hPc := hP.sub (ws' := wc) isC (by
    have h1 : ∀ (is : List Nat) (ws' : va_W), is.map (fun i => ws[i]?) = ws'.map some → is.filterMap (fun i => ws[i]?) = ws' := by
      intro is
      induction is with
      | nil => intro ws' h; cases ws' with
        | nil => rfl
        | cons a t => cases h
      | cons i is ih => intro ws' h; cases ws' with
        | nil => cases h
        | cons a t =>
          rw [List.map_cons, List.map_cons] at h
          injection h with h1 h2
          rw [List.filterMap_cons, h1]
          show a :: List.filterMap _ is = a :: t
          rw [ih t h2]
    exact h1 isC wc hC)
  have hFc := va_free (wc := wc) hD hS hA isC hC
  have hXc : ∀ U : State, U.heap = H → s.WarmedH U.vm → X (va_A wc H.size) U := fun U hU hW => hX H locs _ U hS hFc hU hW
  have hp := pre_in (s := s) (H := H) (D := D) (cI := cI) (cJ := cJ) (.ref b :: As) hXb hXc hPc hDc hK hnw
  obtain ⟨⟨hlk, hi, h1, h2, h3⟩, hin, hsel⟩ := hc
  have hrc := va_recv (s := s) hK hPc hcl hj
  rw [hq0] at hrc
  rcases hlk with hlk | ⟨host, hlk⟩
  · exact va_callv (va_runV (Ts := al) (As := As) (rest := st) (C := y.cls) ⟨hx, hb, hml, hown, hts⟩ (hM l D H.size) ⟨cl_B hts hlk hi h1 h2 h3 cd hfr, hts _ hin, hts _ hsel⟩ ⟨hp.1, hrc, hp.2⟩ rfl hlen hl.1 rfl (lv_room hroom) d hce) hS (fun q _ h => hFc q h) hFc (fun u t H1 locs1 ht hvm hq hB hz1 hk1 hS1 => by
    have hp := hq
    obtain ⟨hP1, hD1⟩ := hB
    rw [ht] at hP1
    obtain ⟨hP2, hD2⟩ := va_join hP hD isC isR hC hR hn hdis hk1 hFc hP1 hD1
    exact h u hp H1 locs1 ls hP2 hD2 hS1 hl)
  · exact va_callv (va_runVN (Ts := al) (As := As) (rest := st) (C := y.cls) (host := host) ⟨hx, hb, hml, hown, hts⟩ (hM l D H.size) ⟨cl_N hts (hnw _ hlk) hi h1 h2 h3 cd hfr, hts _ hin, hts _ hsel⟩ ⟨hp.1, hrc, hp.2⟩ rfl hlen hl.1 rfl (lv_room hroom) d hce) hS (fun q _ h => hFc q h) hFc (fun u t H1 locs1 ht hvm hq hB hz1 hk1 hS1 => by
    have hp := hq
    obtain ⟨hP1, hD1⟩ := hB
    rw [ht] at hP1
    obtain ⟨hP2, hD2⟩ := va_join hP hD isC isR hC hR hn hdis hk1 hFc hP1 hD1
    exact h u hp H1 locs1 ls hP2 hD2 hS1 hl)
theorem qc_sV {K : Kx} {cI cJ : ClassId} {cc : ByteArray} {nL : Nat} {own : String} {rm : Room} {ws : va_W} {k n pc : Nat} {lv : List (Nat × Value)} {st : List Value} (C : Cx K cI cJ cc nL own rm) {ix np : Nat} {y : MethodName} {cc' : ByteArray} {nL' : Nat} {rm' : Room} {X : (Nat → Prop) → State → Prop} {As : List Value} {wc wr : va_W} {post : va_W → Prop} {st0 : List Value} (hc : ClS own ix y np) (cd : Cond.code y cc' nL' none ∈ al) (hM : MtV cI cJ y cc' nL' rm' X As wc post) (hX : Xok K X) (hXb : Xbl X)
    (isC isR : List Nat) (hC : isC.map (fun i => ws[i]?) = wc.map some) (hR : isR.map (fun i => ws[i]?) = wr.map some) (hnd : va_nd isC = true) (hn : va_nd isR = true) (hdis : ∀ i ∈ isR, i ∉ isC) (hst : st0 = As.reverse ++ st) (hlen : As.length = np) (hroom : (st.map fun v => v.category).sum ≤ 8) (hfr : rm'.frames + 1 ≤ rm.frames ∧ 8 + (nL' + 11) + rm'.locals ≤ rm.locals) (hce : k + rm'.cells ≤ rm.cells ∧ n + rm'.slots ≤ rm.slots) (d : decode cc pc = .ok (.invokestatic ix, 3)) (h : ∀ (u : va_W), post u → V K nL (wr ++ u) (k + rm'.cells) (n + rm'.slots) (pc + 3) lv st) : V K nL ws k n pc lv st0 := by
  obtain ⟨p, l, e, R, s, m, args, below, meth, c, D, A, Q⟩ := K
  obtain ⟨hx, hb, hml, hown, hts, hK, hA, rfl, hnw⟩ := C
  subst hst
  intro H locs ls hP hD hS hl
  have hDc := hD.sub isC hnd hC
  have hPc := hP.sub (ws' := wc) isC (by
    have h1 : ∀ (is : List Nat) (ws' : va_W), is.map (fun i => ws[i]?) = ws'.map some → is.filterMap (fun i => ws[i]?) = ws' := by
      intro is
      induction is with
      | nil => intro ws' h; cases ws' with
        | nil => rfl
        | cons a t => cases h
      | cons i is ih => intro ws' h; cases ws' with
        | nil => cases h
        | cons a t =>
          rw [List.map_cons, List.map_cons] at h
          injection h with h1 h2
          rw [List.filterMap_cons, h1]
          show a :: List.filterMap _ is = a :: t
          rw [ih t h2]
    exact h1 isC wc hC)
  have hFc := va_free (wc := wc) hD hS hA isC hC
  have hXc : ∀ U : State, U.heap = H → s.WarmedH U.vm → X (va_A wc H.size) U := fun U hU hW => hX H locs _ U hS hFc hU hW
  have hp := pre_in (s := s) (H := H) (D := D) (cI := cI) (cJ := cJ) As hXb hXc hPc hDc hK hnw
  obtain ⟨⟨hlk, hi, h1, h2, h3⟩, hsta⟩ := hc
  rcases hlk with hlk | ⟨host, hlk⟩
  · exact va_callv (va_runS (Ts := al) (As := As) (rest := st) ⟨hx, hb, hml, hown, hts⟩ (hM l D H.size) ⟨cl_B hts hlk hi h1 h2 h3 cd hfr, hts _ hsta⟩ hp rfl hlen hl.1 rfl (lv_room hroom) d hce) hS (fun q _ h => hFc q h) hFc (fun u t H1 locs1 ht hvm hq hB hz1 hk1 hS1 => by
    have hp := hq
    obtain ⟨hP1, hD1⟩ := hB
    rw [ht] at hP1
    obtain ⟨hP2, hD2⟩ := va_join hP hD isC isR hC hR hn hdis hk1 hFc hP1 hD1
    exact h u hp H1 locs1 ls hP2 hD2 hS1 hl)
  · exact va_callv (va_runSN (Ts := al) (As := As) (rest := st) (host := host) ⟨hx, hb, hml, hown, hts⟩ (hM l D H.size) ⟨cl_N hts (hnw _ hlk) hi h1 h2 h3 cd hfr, hts _ hsta, trivial⟩ hp rfl hlen hl.1 rfl (lv_room hroom) d hce) hS (fun q _ h => hFc q h) hFc (fun u t H1 locs1 ht hvm hq hB hz1 hk1 hS1 => by
    have hp := hq
    obtain ⟨hP1, hD1⟩ := hB
    rw [ht] at hP1
    obtain ⟨hP2, hD2⟩ := va_join hP hD isC isR hC hR hn hdis hk1 hFc hP1 hD1
    exact h u hp H1 locs1 ls hP2 hD2 hS1 hl)
theorem qc_iV {K : Kx} {cI cJ : ClassId} {cc : ByteArray} {nL : Nat} {own : String} {rm : Room} {ws : va_W} {k n pc : Nat} {lv : List (Nat × Value)} {st : List Value} (C : Cx K cI cJ cc nL own rm) {ix np : Nat} {y : MethodName} {cc' : ByteArray} {nL' : Nat} {rm' : Room} {X : (Nat → Prop) → State → Prop} {b : Nat} {As : List Value} {wc wr : va_W} {post : va_W → Prop} {st0 : List Value} (hc : ClI own ix y np) (cd : Cond.code y cc' nL' none ∈ al) (hM : MtV cI cJ y cc' nL' rm' X (.ref b :: As) wc post) (hX : Xok K X) (hXb : Xbl X)
    (isC isR : List Nat) (hC : isC.map (fun i => ws[i]?) = wc.map some) (hR : isR.map (fun i => ws[i]?) = wr.map some) (hnd : va_nd isC = true) (hn : va_nd isR = true) (hdis : ∀ i ∈ isR, i ∉ isC) (hst : st0 = As.reverse ++ .ref b :: st) (hlen : As.length = np) (hroom : (st.map fun v => v.category).sum ≤ 8) (hfr : rm'.frames + 1 ≤ rm.frames ∧ 8 + (nL' + 11) + rm'.locals ≤ rm.locals) (hce : k + rm'.cells ≤ rm.cells ∧ n + rm'.slots ≤ rm.slots) (d : decode cc pc = .ok (.invokespecial ix, 3)) (h : ∀ (u : va_W), post u → V K nL (wr ++ u) (k + rm'.cells) (n + rm'.slots) (pc + 3) lv st) : V K nL ws k n pc lv st0 := by
  obtain ⟨p, l, e, R, s, m, args, below, meth, c, D, A, Q⟩ := K
  obtain ⟨hx, hb, hml, hown, hts, hK, hA, rfl, hnw⟩ := C
  subst hst
  intro H locs ls hP hD hS hl
  have hDc := hD.sub isC hnd hC
  have hPc := hP.sub (ws' := wc) isC (by
    have h1 : ∀ (is : List Nat) (ws' : va_W), is.map (fun i => ws[i]?) = ws'.map some → is.filterMap (fun i => ws[i]?) = ws' := by
      intro is
      induction is with
      | nil => intro ws' h; cases ws' with
        | nil => rfl
        | cons a t => cases h
      | cons i is ih => intro ws' h; cases ws' with
        | nil => cases h
        | cons a t =>
          rw [List.map_cons, List.map_cons] at h
          injection h with h1 h2
          rw [List.filterMap_cons, h1]
          show a :: List.filterMap _ is = a :: t
          rw [ih t h2]
    exact h1 isC wc hC)
  have hFc := va_free (wc := wc) hD hS hA isC hC
  have hXc : ∀ U : State, U.heap = H → s.WarmedH U.vm → X (va_A wc H.size) U := fun U hU hW => hX H locs _ U hS hFc hU hW
  have hp := pre_in (s := s) (H := H) (D := D) (cI := cI) (cJ := cJ) (.ref b :: As) hXb hXc hPc hDc hK hnw
  obtain ⟨⟨hlk, hi, h1, h2, h3⟩, hin, hnm⟩ := hc
  rcases hlk with hlk | ⟨host, hlk⟩
  · exact va_callv (va_runI (Ts := al) (As := As) (rest := st) ⟨hx, hb, hml, hown, hts⟩ (hM l D H.size) ⟨cl_B hts hlk hi h1 h2 h3 cd hfr, hnm, hts _ hin⟩ hp rfl hlen hl.1 rfl (lv_room hroom) d hce) hS (fun q _ h => hFc q h) hFc (fun u t H1 locs1 ht hvm hq hB hz1 hk1 hS1 => by
    have hp := hq
    obtain ⟨hP1, hD1⟩ := hB
    rw [ht] at hP1
    obtain ⟨hP2, hD2⟩ := va_join hP hD isC isR hC hR hn hdis hk1 hFc hP1 hD1
    exact h u hp H1 locs1 ls hP2 hD2 hS1 hl)
  · exact va_callv (va_runIN (Ts := al) (As := As) (rest := st) (host := host) ⟨hx, hb, hml, hown, hts⟩ (hM l D H.size) ⟨cl_N hts (hnw _ hlk) hi h1 h2 h3 cd hfr, hnm, hts _ hin⟩ hp rfl hlen hl.1 rfl (lv_room hroom) d hce) hS (fun q _ h => hFc q h) hFc (fun u t H1 locs1 ht hvm hq hB hz1 hk1 hS1 => by
    have hp := hq
    obtain ⟨hP1, hD1⟩ := hB
    rw [ht] at hP1
    obtain ⟨hP2, hD2⟩ := va_join hP hD isC isR hC hR hn hdis hk1 hFc hP1 hD1
    exact h u hp H1 locs1 ls hP2 hD2 hS1 hl)
end
section
/-! members of the JDK that are rows of the kit -/
theorem qv_mmin {K : Kx} {cI cJ : ClassId} {cc : ByteArray} {nL : Nat} {own : String} {rm : Room} {ws : va_W} {k n pc : Nat} {lv : List (Nat × Value)} {st : List Value} (C : Cx K cI cJ cc nL own rm) {ix : Nat} {a b r : Int} (hlk : Cond.methodLink own ix Lib.Math.min.name ∈ al) (hst : Cond.static Lib.Math.min.name ∈ al) (hini : Cond.initialized "java/lang/Math" ∈ al) (hcode : Cond.code Lib.Math.min.name Lib.Math.min.code 2 (some .int) ∈ al) (ha : ri a) (hb0 : ri b) (hfr : 1 ≤ rm.frames) (hlo : (st.map fun v => v.category).sum + 13 ≤ rm.locals) (hk : k ≤ rm.cells) (hn : n ≤ rm.slots) (er : min a b = r) (d : decode cc pc = .ok (.invokestatic ix, 3)) (h : V K nL ws k n (pc + 3) lv (vi r :: st)) : V K nL ws k n pc lv (vi b :: vi a :: st) := by
  subst er
  obtain ⟨p, l, e, R, s, m, args, below, meth, c, D, A, Q⟩ := K
  obtain ⟨hx, hb, hml, hown, hts, hK, hA, rfl, hnw⟩ := C
  intro H locs ls hP hD hS hl
  refine va_mmin hx hb (hml.trans hl.1.symm) hown (hts _ hlk) (hts _ hst) (hts _ hini) (hts _ hcode) hfr hlo hk hn d ?_
  have e0 : (if zi b < zi a then zi b else zi a) = zi (min a b) := by
    by_cases q : b < a
    · rw [if_pos ((zi_lt (by omega) (by omega)).mpr q)]; congr 1; omega
    · rw [if_neg (fun z => q ((zi_lt (by omega) (by omega)).mp z))]; congr 1; omega
  rw [e0]
  exact h H locs ls hP hD hS hl
theorem qv_mmax {K : Kx} {cI cJ : ClassId} {cc : ByteArray} {nL : Nat} {own : String} {rm : Room} {ws : va_W} {k n pc : Nat} {lv : List (Nat × Value)} {st : List Value} (C : Cx K cI cJ cc nL own rm) {ix : Nat} {a b r : Int} (hlk : Cond.methodLink own ix Lib.Math.max.name ∈ al) (hst : Cond.static Lib.Math.max.name ∈ al) (hini : Cond.initialized "java/lang/Math" ∈ al) (hcode : Cond.code Lib.Math.max.name Lib.Math.max.code 2 (some .int) ∈ al) (ha : ri a) (hb0 : ri b) (hfr : 1 ≤ rm.frames) (hlo : (st.map fun v => v.category).sum + 13 ≤ rm.locals) (hk : k ≤ rm.cells) (hn : n ≤ rm.slots) (er : max a b = r) (d : decode cc pc = .ok (.invokestatic ix, 3)) (h : V K nL ws k n (pc + 3) lv (vi r :: st)) : V K nL ws k n pc lv (vi b :: vi a :: st) := by
  subst er
  obtain ⟨p, l, e, R, s, m, args, below, meth, c, D, A, Q⟩ := K
  obtain ⟨hx, hb, hml, hown, hts, hK, hA, rfl, hnw⟩ := C
  intro H locs ls hP hD hS hl
  refine va_mmax hx hb (hml.trans hl.1.symm) hown (hts _ hlk) (hts _ hst) (hts _ hini) (hts _ hcode) hfr hlo hk hn d ?_
  have e0 : (if zi a < zi b then zi b else zi a) = zi (max a b) := by
    by_cases q : a < b
    · rw [if_pos ((zi_lt (by omega) (by omega)).mpr q)]; congr 1; omega
    · rw [if_neg (fun z => q ((zi_lt (by omega) (by omega)).mp z))]; congr 1; omega
  rw [e0]
  exact h H locs ls hP hD hS hl
theorem cpy_i (f g : Nat → Nat) (sp dp n : Nat) : va_cpy (fun i => zi (f i : Nat)) (fun i => zi (g i : Nat)) sp dp n = fun i => zi (va_cpy f g sp dp n i : Nat) := by
  funext i; unfold va_cpy; split <;> rfl
theorem qv_copy {K : Kx} {cI cJ : ClassId} {cc : ByteArray} {nL : Nat} {own : String} {rm : Room} {ws : va_W} {k n pc : Nat} {lv : List (Nat × Value)} {st : List Value} (C : Cx K cI cJ cc nL own rm) {ix a a0 n0 n1 : Nat} {f g : Nat → Nat} {zs zd zn : Int} {ws' : va_W} (hlk : Cond.methodLink own ix arraycopyName ∈ al) (hnat : Cond.native arraycopyName ∈ al) (hstat : Cond.static arraycopyName ∈ al) (hini : Cond.initialized "java/lang/System" ∈ al) (q0 q1 sp dp cnt : Nat) (ha0 : ws[q0]? = some (ai cI a0 n0 f)) (ha1 : ws[q1]? = some (ai cI a n1 g)) (es : zs = (sp : Int)) (ed : zd = (dp : Int)) (en : zn = (cnt : Int)) (h4 : sp + cnt ≤ n0) (h5 : dp + cnt ≤ n1) (hb1 : n0 ≤ 2147483647) (hb2 : n1 ≤ 2147483647) (hfr : 1 ≤ rm.frames) (hlo : (st.map fun v => v.category).sum + (nativeFrameWords "java/lang/System" "arraycopy" 5 + 11) ≤ rm.locals) (hw2 : ws.set q1 (ai cI a n1 (va_cpy f g sp dp cnt)) = ws') (d : decode cc pc = .ok (.invokestatic ix, 3)) (h : V K nL ws' k n (pc + 3) lv st) : V K nL ws k n pc lv (vi zn :: vi zd :: .ref a :: vi zs :: .ref a0 :: st) := by
  subst es ed en hw2
  obtain ⟨p, l, e, R, s, m, args, below, meth, c, D, A, Q⟩ := K
  obtain ⟨hx, hb, hml, hown, hts, hK, hA, rfl, hnw⟩ := C
  intro H locs ls hP hD hS hl
  have e1 := zi_nat (k := sp) (by omega)
  have e2 := zi_nat (k := dp) (by omega)
  have e3 := zi_nat (k := cnt) (by omega)
  have nn : ∀ x : Nat, x ≤ 2147483647 → ¬ zi (x : Int) < 0 := fun x hx2 => by rw [← zi_0, zi_lt (by omega) (by omega)]; omega
  refine va_copyi hx hb (hml.trans hl.1.symm) hown (hts _ hlk) (hts _ hnat) (hts _ hstat) (hts _ hini) hK hP hD hS q0 q1 0 0 ha0 ha1 rfl rfl rfl (nn sp (by omega)) (nn dp (by omega)) (nn cnt (by omega)) (by rw [e1, e3]; exact h4) (by rw [e2, e3]; exact h5) (fun _ _ => rfl) hfr hlo d (fun H1 locs1 hP1 hD1 hS1 => ?_)
  rw [e1, e2, e3, cpy_i] at hP1 hD1
  exact h H1 locs1 ls hP1 hD1 hS1 hl
theorem qv_alenJ {K : Kx} {cI cJ : ClassId} {cc : ByteArray} {nL : Nat} {own : String} {rm : Room} {ws : va_W} {k n pc : Nat} {lv : List (Nat × Value)} {st : List Value} (C : Cx K cI cJ cc nL own rm) {a N : Nat} {f : Nat → Nat} (q : Nat) (hw : ws[q]? = some (aj cJ a N f)) (d : decode cc pc = .ok (.arraylength, 1)) (h : V K nL ws k n (pc + 1) lv (vi (N : Nat) :: st)) : V K nL ws k n pc lv (.ref a :: st) := by
  obtain ⟨p, l, e, R, s, m, args, below, meth, c, D, A, Q⟩ := K
  obtain ⟨hx, hb, hml, hown, hts, hK, hA, rfl, hnw⟩ := C
  intro H locs ls hP hD hS hl
  exact va_alen hx hb hK hP q 1 hw rfl (zi_ofNat N) d (h H locs ls hP hD hS hl)
theorem nz_b2 (b : Bool) : narrow .boolean (vi (b2 b)) = vi (b2 b) := by cases b <;> rfl
theorem fz_b2 (b : Bool) : fits .boolean (vi (b2 b)) = true := by cases b <;> rfl
theorem rb_b2 (b : Bool) : ri (b2 b) := by cases b <;> decide
theorem b2_t {b : Bool} (h : b2 b ≠ 0) : b = true := by cases b with
  | true => rfl
  | false => exact absurd rfl h
theorem b2_f {b : Bool} (h : b2 b = 0) : b = false := by cases b with
  | false => rfl
  | true => exact absurd h (by decide)
end
section
abbrev rm_Tru_init : Room := { frames := 2, cells := 12, slots := 3447, locals := 41 }
abbrev rm_Tru_set : Room := { frames := 7, cells := 0, slots := 0, locals := 103 }
abbrev rm_Tru_digit : Room := { frames := 7, cells := 0, slots := 0, locals := 103 }
abbrev rm_Tru_clear : Room := { frames := 7, cells := 0, slots := 0, locals := 103 }
abbrev rm_Tru_round : Room := { frames := 7, cells := 0, slots := 0, locals := 103 }
abbrev rm_Tru_places : Room := { frames := 7, cells := 0, slots := 0, locals := 103 }
abbrev rm_Tru_nearest : Room := { frames := 7, cells := 0, slots := 0, locals := 103 }
abbrev rm_Tru_enough : Room := { frames := 7, cells := 0, slots := 0, locals := 145 }
abbrev rm_Tru_look : Room := { frames := 7, cells := 0, slots := 0, locals := 103 }
abbrev rm_Tru_count : Room := { frames := 7, cells := 0, slots := 0, locals := 103 }
abbrev rm_Tru_hasNoRoomFor : Room := { frames := 0, cells := 0, slots := 0, locals := 0 }
abbrev rm_Tru_bringDigit : Room := { frames := 1, cells := 0, slots := 0, locals := 21 }
abbrev rm_Tru_forgetWhatCame : Room := { frames := 0, cells := 0, slots := 0, locals := 0 }
abbrev rm_Tru_roundToDigits : Room := { frames := 3, cells := 0, slots := 0, locals := 63 }
abbrev rm_Tru_nearestSize : Room := { frames := 3, cells := 0, slots := 0, locals := 81 }
abbrev rm_Tru_leastDigitsFor : Room := { frames := 5, cells := 0, slots := 0, locals := 121 }
abbrev rm_Tru_holdsWith : Room := { frames := 2, cells := 0, slots := 0, locals := 62 }
abbrev rm_Tru_spellMiddleAbove : Room := { frames := 4, cells := 0, slots := 0, locals := 98 }
abbrev rm_Tru_spell : Room := { frames := 3, cells := 0, slots := 0, locals := 74 }
abbrev rm_Tru_factorOf : Room := { frames := 0, cells := 0, slots := 0, locals := 0 }
abbrev rm_Tru_powerOf : Room := { frames := 1, cells := 0, slots := 0, locals := 21 }
abbrev rm_Mod_init : Room := { frames := 1, cells := 6, slots := 6300, locals := 21 }
abbrev rm_Mod_thrown : Room := { frames := 0, cells := 0, slots := 0, locals := 0 }
abbrev rm_Mod_in : Room := { frames := 0, cells := 0, slots := 0, locals := 0 }
abbrev rm_Mod_fails : Room := { frames := 0, cells := 0, slots := 0, locals := 0 }
abbrev rm_Mod_set : Room := { frames := 1, cells := 0, slots := 0, locals := 23 }
abbrev rm_Mod_twice : Room := { frames := 0, cells := 0, slots := 0, locals := 0 }
abbrev rm_Mod_half : Room := { frames := 0, cells := 0, slots := 0, locals := 0 }
abbrev rm_Mod_keep : Room := { frames := 0, cells := 0, slots := 0, locals := 0 }
abbrev rm_Mod_digit : Room := { frames := 1, cells := 0, slots := 0, locals := 25 }
abbrev rm_Mod_clear : Room := { frames := 1, cells := 0, slots := 0, locals := 25 }
abbrev rm_Mod_cut : Room := { frames := 1, cells := 0, slots := 0, locals := 20 }
abbrev rm_Mod_nothing : Room := { frames := 0, cells := 0, slots := 0, locals := 0 }
abbrev rm_Mod_round : Room := { frames := 2, cells := 0, slots := 0, locals := 44 }
abbrev rm_Mod_places : Room := { frames := 2, cells := 0, slots := 0, locals := 44 }
abbrev rm_Mod_finds : Room := { frames := 1, cells := 0, slots := 0, locals := 31 }
abbrev rm_Mod_isNothing : Room := { frames := 0, cells := 0, slots := 0, locals := 0 }
abbrev rm_Mod_put : Room := { frames := 0, cells := 0, slots := 0, locals := 0 }
abbrev rm_Mod_nearest : Room := { frames := 2, cells := 0, slots := 0, locals := 63 }
abbrev rm_Mod_exactly : Room := { frames := 1, cells := 0, slots := 0, locals := 23 }
abbrev rm_Mod_compare : Room := { frames := 0, cells := 0, slots := 0, locals := 0 }
abbrev rm_Mod_enough : Room := { frames := 2, cells := 0, slots := 0, locals := 63 }
abbrev rm_Mod_look : Room := { frames := 1, cells := 0, slots := 0, locals := 25 }
abbrev rm_Mod_count : Room := { frames := 1, cells := 0, slots := 0, locals := 25 }
abbrev rm_Dec_init : Room := { frames := 1, cells := 1, slots := 800, locals := 21 }
abbrev rm_Dec_beZero : Room := { frames := 0, cells := 0, slots := 0, locals := 0 }
abbrev rm_Dec_beStartOf : Room := { frames := 1, cells := 0, slots := 0, locals := 40 }
abbrev rm_Dec_append : Room := { frames := 0, cells := 0, slots := 0, locals := 0 }
abbrev rm_Dec_cutBehind : Room := { frames := 2, cells := 0, slots := 0, locals := 41 }
abbrev rm_Dec_goesUpBehind : Room := { frames := 0, cells := 0, slots := 0, locals := 0 }
abbrev rm_Dec_settle : Room := { frames := 1, cells := 0, slots := 0, locals := 20 }
abbrev rm_Dec_goUp : Room := { frames := 0, cells := 0, slots := 0, locals := 0 }
abbrev rm_Dec_dropZerosAtEnd : Room := { frames := 0, cells := 0, slots := 0, locals := 0 }
abbrev rm_Dec_against : Room := { frames := 1, cells := 0, slots := 0, locals := 21 }
abbrev rm_Dec_read : Room := { frames := 2, cells := 0, slots := 0, locals := 46 }
abbrev rm_Dec_readGroup : Room := { frames := 1, cells := 0, slots := 0, locals := 21 }
abbrev rm_Grp_init : Room := { frames := 1, cells := 1, slots := 160, locals := 21 }
abbrev rm_Grp_placeOfFirst : Room := { frames := 0, cells := 0, slots := 0, locals := 0 }
abbrev rm_Grp_hasSomethingBehindPoint : Room := { frames := 0, cells := 0, slots := 0, locals := 0 }
abbrev rm_Grp_beProduct : Room := { frames := 2, cells := 0, slots := 0, locals := 50 }
abbrev rm_Grp_load : Room := { frames := 1, cells := 0, slots := 0, locals := 24 }
abbrev rm_Grp_multiply : Room := { frames := 1, cells := 0, slots := 0, locals := 21 }
abbrev rm_Grp_divide : Room := { frames := 1, cells := 0, slots := 0, locals := 21 }
abbrev rm_Wrd_init : Room := { frames := 1, cells := 1, slots := 70, locals := 21 }
abbrev rm_Wrd_load : Room := { frames := 2, cells := 0, slots := 0, locals := 50 }
abbrev rm_Wrd_roundedSize : Room := { frames := 2, cells := 0, slots := 0, locals := 53 }
abbrev rm_Wrd_roundHead : Room := { frames := 1, cells := 0, slots := 0, locals := 21 }
abbrev rm_Wrd_firstThatIsNotZero : Room := { frames := 0, cells := 0, slots := 0, locals := 0 }
abbrev rm_Wrd_isMoreFrom : Room := { frames := 0, cells := 0, slots := 0, locals := 0 }
abbrev rm_Law_set : Room := { frames := 8, cells := 0, slots := 0, locals := 127 }
abbrev rm_Law_digit : Room := { frames := 8, cells := 0, slots := 0, locals := 124 }
abbrev rm_Law_clear : Room := { frames := 8, cells := 0, slots := 0, locals := 125 }
abbrev rm_Law_round : Room := { frames := 8, cells := 0, slots := 0, locals := 124 }
abbrev rm_Law_places : Room := { frames := 8, cells := 0, slots := 0, locals := 124 }
abbrev rm_Law_nearest : Room := { frames := 8, cells := 0, slots := 0, locals := 125 }
abbrev rm_Law_enough : Room := { frames := 8, cells := 0, slots := 0, locals := 168 }
abbrev rm_Law_look : Room := { frames := 8, cells := 0, slots := 0, locals := 124 }
abbrev rm_Law_count : Room := { frames := 8, cells := 0, slots := 0, locals := 124 }
abbrev rm_JInt_compare : Room := { frames := 0, cells := 0, slots := 0, locals := 0 }
abbrev rm_JInt_numberOfLeadingZeros : Room := { frames := 0, cells := 0, slots := 0, locals := 0 }
abbrev rm_JLon_numberOfLeadingZeros : Room := { frames := 1, cells := 0, slots := 0, locals := 21 }
abbrev rm_JArr_fill : Room := { frames := 0, cells := 0, slots := 0, locals := 0 }
/-! rows that link: fields, calls, numbers -/
theorem fs_0_0 : Fs 0 0 (.array .int) true := ⟨_, _, _, ty0_, rfl, tt_0, tn_0, rfl, by decide +kernel⟩
theorem fs_0_1 : Fs 0 1 (.int) false := ⟨_, _, _, ty0_, rfl, tt_0, tn_0, rfl, by decide +kernel⟩
theorem fs_0_2 : Fs 0 2 (.int) false := ⟨_, _, _, ty0_, rfl, tt_0, tn_0, rfl, by decide +kernel⟩
theorem fs_1_0 : Fs 1 0 (.array .long) true := ⟨_, _, _, ty1_, rfl, tt_1, tn_1, rfl, by decide +kernel⟩
theorem fs_1_1 : Fs 1 1 (.int) false := ⟨_, _, _, ty1_, rfl, tt_1, tn_1, rfl, by decide +kernel⟩
theorem fs_1_2 : Fs 1 2 (.int) false := ⟨_, _, _, ty1_, rfl, tt_1, tn_1, rfl, by decide +kernel⟩
theorem fs_2_0 : Fs 2 0 (.array .long) true := ⟨_, _, _, ty2_, rfl, tt_2, tn_2, rfl, by decide +kernel⟩
theorem fs_2_1 : Fs 2 1 (.boolean) false := ⟨_, _, _, ty2_, rfl, tt_2, tn_2, rfl, by decide +kernel⟩
theorem fs_3_0 : Fs 3 0 (.object "DecimalTruth$Decimal") true := ⟨_, _, _, ty3_, rfl, tt_3, tn_3, rfl, by decide +kernel⟩
theorem fs_3_1 : Fs 3 1 (.boolean) false := ⟨_, _, _, ty3_, rfl, tt_3, tn_3, rfl, by decide +kernel⟩
theorem fs_3_2 : Fs 3 2 (.int) false := ⟨_, _, _, ty3_, rfl, tt_3, tn_3, rfl, by decide +kernel⟩
theorem fs_3_3 : Fs 3 3 (.int) false := ⟨_, _, _, ty3_, rfl, tt_3, tn_3, rfl, by decide +kernel⟩
theorem fs_3_4 : Fs 3 4 (.object "DecimalTruth$Groups") true := ⟨_, _, _, ty3_, rfl, tt_3, tn_3, rfl, by decide +kernel⟩
theorem fs_3_5 : Fs 3 5 (.object "DecimalTruth$Words") true := ⟨_, _, _, ty3_, rfl, tt_3, tn_3, rfl, by decide +kernel⟩
theorem fs_3_6 : Fs 3 6 (.object "DecimalTruth$Decimal") true := ⟨_, _, _, ty3_, rfl, tt_3, tn_3, rfl, by decide +kernel⟩
theorem fs_3_7 : Fs 3 7 (.object "DecimalTruth$Decimal") true := ⟨_, _, _, ty3_, rfl, tt_3, tn_3, rfl, by decide +kernel⟩
theorem fs_3_8 : Fs 3 8 (.object "DecimalTruth$Decimal") true := ⟨_, _, _, ty3_, rfl, tt_3, tn_3, rfl, by decide +kernel⟩
theorem fs_4_0 : Fs 4 0 (.int) false := ⟨_, _, _, ty4_, rfl, tt_4, tn_4, rfl, by decide +kernel⟩
theorem fs_4_1 : Fs 4 1 (.boolean) false := ⟨_, _, _, ty4_, rfl, tt_4, tn_4, rfl, by decide +kernel⟩
theorem fs_4_2 : Fs 4 2 (.array .int) true := ⟨_, _, _, ty4_, rfl, tt_4, tn_4, rfl, by decide +kernel⟩
theorem fs_4_3 : Fs 4 3 (.int) false := ⟨_, _, _, ty4_, rfl, tt_4, tn_4, rfl, by decide +kernel⟩
theorem fs_4_4 : Fs 4 4 (.int) false := ⟨_, _, _, ty4_, rfl, tt_4, tn_4, rfl, by decide +kernel⟩
theorem fs_4_5 : Fs 4 5 (.int) false := ⟨_, _, _, ty4_, rfl, tt_4, tn_4, rfl, by decide +kernel⟩
theorem fs_4_6 : Fs 4 6 (.int) false := ⟨_, _, _, ty4_, rfl, tt_4, tn_4, rfl, by decide +kernel⟩
theorem fs_4_7 : Fs 4 7 (.array .int) true := ⟨_, _, _, ty4_, rfl, tt_4, tn_4, rfl, by decide +kernel⟩
theorem fs_4_8 : Fs 4 8 (.int) false := ⟨_, _, _, ty4_, rfl, tt_4, tn_4, rfl, by decide +kernel⟩
theorem fs_4_9 : Fs 4 9 (.int) false := ⟨_, _, _, ty4_, rfl, tt_4, tn_4, rfl, by decide +kernel⟩
theorem fs_4_10 : Fs 4 10 (.long) false := ⟨_, _, _, ty4_, rfl, tt_4, tn_4, rfl, by decide +kernel⟩
theorem fs_4_11 : Fs 4 11 (.array .int) true := ⟨_, _, _, ty4_, rfl, tt_4, tn_4, rfl, by decide +kernel⟩
theorem fs_4_12 : Fs 4 12 (.array .int) true := ⟨_, _, _, ty4_, rfl, tt_4, tn_4, rfl, by decide +kernel⟩
theorem fs_4_13 : Fs 4 13 (.array .int) true := ⟨_, _, _, ty4_, rfl, tt_4, tn_4, rfl, by decide +kernel⟩
theorem fs_4_14 : Fs 4 14 (.array .int) true := ⟨_, _, _, ty4_, rfl, tt_4, tn_4, rfl, by decide +kernel⟩
theorem fs_4_15 : Fs 4 15 (.int) false := ⟨_, _, _, ty4_, rfl, tt_4, tn_4, rfl, by decide +kernel⟩
theorem fs_4_16 : Fs 4 16 (.int) false := ⟨_, _, _, ty4_, rfl, tt_4, tn_4, rfl, by decide +kernel⟩
theorem fs_4_17 : Fs 4 17 (.int) false := ⟨_, _, _, ty4_, rfl, tt_4, tn_4, rfl, by decide +kernel⟩
theorem fs_4_18 : Fs 4 18 (.int) false := ⟨_, _, _, ty4_, rfl, tt_4, tn_4, rfl, by decide +kernel⟩
theorem cl_Tru_11 : ClI RT 11 ky_Dec_init 0 := ⟨⟨Or.inr ⟨"DecimalTruth", (wn (i := 27) rfl rfl)⟩, (wl (i := 2) rfl rfl), by decide, by decide, by decide +kernel⟩, (wl (i := 28) rfl rfl), rfl⟩
theorem fl_Tru_12 : Fl RT 12 3 0 := ⟨"DecimalTruth", TF3, 9, rfl, by decide, rfl, tu_3, Or.inl (wl (i := 81) rfl rfl)⟩
theorem cl_Tru_18 : ClI RT 18 ky_Grp_init 0 := ⟨⟨Or.inr ⟨"DecimalTruth", (wn (i := 50) rfl rfl)⟩, (wl (i := 3) rfl rfl), by decide, by decide, by decide +kernel⟩, (wl (i := 51) rfl rfl), rfl⟩
theorem fl_Tru_19 : Fl RT 19 3 4 := ⟨"DecimalTruth", TF3, 9, rfl, by decide, rfl, tu_3, Or.inl (wl (i := 85) rfl rfl)⟩
theorem cl_Tru_25 : ClI RT 25 ky_Wrd_init 0 := ⟨⟨Or.inr ⟨"DecimalTruth", (wn (i := 70) rfl rfl)⟩, (wl (i := 4) rfl rfl), by decide, by decide, by decide +kernel⟩, (wl (i := 71) rfl rfl), rfl⟩
theorem fl_Tru_26 : Fl RT 26 3 5 := ⟨"DecimalTruth", TF3, 9, rfl, by decide, rfl, tu_3, Or.inl (wl (i := 86) rfl rfl)⟩
theorem fl_Tru_30 : Fl RT 30 3 6 := ⟨"DecimalTruth", TF3, 9, rfl, by decide, rfl, tu_3, Or.inl (wl (i := 87) rfl rfl)⟩
theorem fl_Tru_33 : Fl RT 33 3 7 := ⟨"DecimalTruth", TF3, 9, rfl, by decide, rfl, tu_3, Or.inl (wl (i := 88) rfl rfl)⟩
theorem fl_Tru_36 : Fl RT 36 3 8 := ⟨"DecimalTruth", TF3, 9, rfl, by decide, rfl, tu_3, Or.inl (wl (i := 89) rfl rfl)⟩
theorem wk_Tru_39 : Cond.constantLong RT 39 (zj 9223372036854775807) ∈ al := wl (i := 117) rfl rfl
theorem wk_Tru_41 : Cond.constantLong RT 41 (zj 9218868437227405312) ∈ al := wl (i := 118) rfl rfl
theorem fl_Tru_50 : Fl RT 50 3 1 := ⟨"DecimalTruth", TF3, 9, rfl, by decide, rfl, tu_3, Or.inl (wl (i := 82) rfl rfl)⟩
theorem cl_Tru_54 : ClS RT 54 ky_Tru_factorOf 1 := ⟨⟨Or.inl (wl (i := 187) rfl rfl), (wl (i := 1) rfl rfl), by decide, by decide, by decide +kernel⟩, (wl (i := 188) rfl rfl)⟩
theorem cl_Tru_58 : ClS RT 58 ky_Tru_powerOf 1 := ⟨⟨Or.inl (wl (i := 191) rfl rfl), (wl (i := 1) rfl rfl), by decide, by decide, by decide +kernel⟩, (wl (i := 192) rfl rfl)⟩
theorem cl_Tru_62 : ClV RT 62 ky_Tru_spell 3 := ⟨⟨Or.inl (wl (i := 197) rfl rfl), (wl (i := 1) rfl rfl), by decide, by decide, by decide +kernel⟩, (wl (i := 199) rfl rfl), (wp (i := 1) rfl)⟩
theorem cl_Tru_66 : ClV RT 66 ky_Tru_forgetWhatCame 0 := ⟨⟨Or.inl (wl (i := 243) rfl rfl), (wl (i := 1) rfl rfl), by decide, by decide, by decide +kernel⟩, (wl (i := 245) rfl rfl), (wp (i := 4) rfl)⟩
theorem fl_Tru_69 : Fl RT 69 0 1 := ⟨"DecimalTruth$Decimal", TF0, 3, rfl, by decide, rfl, tu_0, Or.inr ⟨"DecimalTruth", (wn (i := 35) rfl rfl)⟩⟩
theorem cl_Tru_75 : ClV RT 75 ky_Tru_hasNoRoomFor 1 := ⟨⟨Or.inl (wl (i := 256) rfl rfl), (wl (i := 1) rfl rfl), by decide, by decide, by decide +kernel⟩, (wl (i := 258) rfl rfl), (wp (i := 5) rfl)⟩
theorem cl_Tru_84 : ClV RT 84 ky_Tru_bringDigit 1 := ⟨⟨Or.inl (wl (i := 276) rfl rfl), (wl (i := 1) rfl rfl), by decide, by decide, by decide +kernel⟩, (wl (i := 278) rfl rfl), (wp (i := 6) rfl)⟩
theorem fl_Tru_88 : Fl RT 88 3 3 := ⟨"DecimalTruth", TF3, 9, rfl, by decide, rfl, tu_3, Or.inl (wl (i := 84) rfl rfl)⟩
theorem fl_Tru_91 : Fl RT 91 3 2 := ⟨"DecimalTruth", TF3, 9, rfl, by decide, rfl, tu_3, Or.inl (wl (i := 83) rfl rfl)⟩
theorem cl_Tru_96 : ClV RT 96 ky_Dec_beZero 0 := ⟨⟨Or.inl (wl (i := 289) rfl rfl), (wl (i := 2) rfl rfl), by decide, by decide, by decide +kernel⟩, (wl (i := 290) rfl rfl), (wl (i := 291) rfl rfl)⟩
theorem cl_Tru_101 : ClV RT 101 ky_Tru_roundToDigits 1 := ⟨⟨Or.inl (wl (i := 301) rfl rfl), (wl (i := 1) rfl rfl), by decide, by decide, by decide +kernel⟩, (wl (i := 303) rfl rfl), (wp (i := 7) rfl)⟩
theorem fl_Tru_106 : Fl RT 106 0 2 := ⟨"DecimalTruth$Decimal", TF0, 3, rfl, by decide, rfl, tu_0, Or.inr ⟨"DecimalTruth", (wn (i := 39) rfl rfl)⟩⟩
theorem cl_Tru_109 : ClV RT 109 ky_Dec_cutBehind 1 := ⟨⟨Or.inl (wl (i := 305) rfl rfl), (wl (i := 2) rfl rfl), by decide, by decide, by decide +kernel⟩, (wl (i := 306) rfl rfl), (wl (i := 307) rfl rfl)⟩
theorem cl_Tru_112 : ClV RT 112 ky_Tru_nearestSize 0 := ⟨⟨Or.inl (wl (i := 338) rfl rfl), (wl (i := 1) rfl rfl), by decide, by decide, by decide +kernel⟩, (wl (i := 340) rfl rfl), (wp (i := 9) rfl)⟩
set_option maxRecDepth 10000 in
theorem wk_Tru_121 : Cond.constantLong RT 121 (zj (-9223372036854775808)) ∈ al := wl (i := 399) rfl rfl
set_option maxRecDepth 10000 in
theorem cl_Tru_123 : ClV RT 123 ky_Tru_leastDigitsFor 1 := ⟨⟨Or.inl (wl (i := 407) rfl rfl), (wl (i := 1) rfl rfl), by decide, by decide, by decide +kernel⟩, (wl (i := 409) rfl rfl), (wp (i := 12) rfl)⟩
theorem fl_Tru_128 : Fl RT 128 0 0 := ⟨"DecimalTruth$Decimal", TF0, 3, rfl, by decide, rfl, tu_0, Or.inr ⟨"DecimalTruth", (wn (i := 33) rfl rfl)⟩⟩
theorem cl_Tru_134 : ClV RT 134 ky_Dec_append 1 := ⟨⟨Or.inl (wl (i := 280) rfl rfl), (wl (i := 2) rfl rfl), by decide, by decide, by decide +kernel⟩, (wl (i := 236) rfl rfl), (wl (i := 237) rfl rfl)⟩
theorem cl_Tru_137 : ClV RT 137 ky_Grp_load 1 := ⟨⟨Or.inl (wl (i := 342) rfl rfl), (wl (i := 3) rfl rfl), by decide, by decide, by decide +kernel⟩, (wl (i := 343) rfl rfl), (wl (i := 344) rfl rfl)⟩
theorem cl_Tru_141 : ClV RT 141 ky_Wrd_load 1 := ⟨⟨Or.inl (wl (i := 348) rfl rfl), (wl (i := 4) rfl rfl), by decide, by decide, by decide +kernel⟩, (wl (i := 349) rfl rfl), (wl (i := 350) rfl rfl)⟩
set_option maxRecDepth 10000 in
theorem cl_Tru_144 : ClV RT 144 ky_Wrd_roundedSize 0 := ⟨⟨Or.inl (wl (i := 363) rfl rfl), (wl (i := 4) rfl rfl), by decide, by decide, by decide +kernel⟩, (wl (i := 364) rfl rfl), (wl (i := 365) rfl rfl)⟩
set_option maxRecDepth 10000 in
theorem cl_Tru_147 : ClV RT 147 ky_Tru_spellMiddleAbove 2 := ⟨⟨Or.inl (wl (i := 411) rfl rfl), (wl (i := 1) rfl rfl), by decide, by decide, by decide +kernel⟩, (wl (i := 413) rfl rfl), (wp (i := 13) rfl)⟩
set_option maxRecDepth 10000 in
theorem cl_Tru_151 : ClV RT 151 ky_Tru_holdsWith 2 := ⟨⟨Or.inl (wl (i := 416) rfl rfl), (wl (i := 1) rfl rfl), by decide, by decide, by decide +kernel⟩, (wl (i := 418) rfl rfl), (wp (i := 14) rfl)⟩
set_option maxRecDepth 10000 in
theorem cl_Tru_155 : ClV RT 155 ky_Dec_goesUpBehind 1 := ⟨⟨Or.inl (wl (i := 420) rfl rfl), (wl (i := 2) rfl rfl), by decide, by decide, by decide +kernel⟩, (wl (i := 311) rfl rfl), (wl (i := 312) rfl rfl)⟩
set_option maxRecDepth 10000 in
theorem cl_Tru_158 : ClV RT 158 ky_Dec_beStartOf 2 := ⟨⟨Or.inl (wl (i := 421) rfl rfl), (wl (i := 2) rfl rfl), by decide, by decide, by decide +kernel⟩, (wl (i := 422) rfl rfl), (wl (i := 423) rfl rfl)⟩
set_option maxRecDepth 10000 in
theorem cl_Tru_162 : ClV RT 162 ky_Dec_settle 1 := ⟨⟨Or.inl (wl (i := 428) rfl rfl), (wl (i := 2) rfl rfl), by decide, by decide, by decide +kernel⟩, (wl (i := 315) rfl rfl), (wl (i := 316) rfl rfl)⟩
set_option maxRecDepth 10000 in
theorem cl_Tru_166 : ClV RT 166 ky_Dec_against 1 := ⟨⟨Or.inl (wl (i := 429) rfl rfl), (wl (i := 2) rfl rfl), by decide, by decide, by decide +kernel⟩, (wl (i := 430) rfl rfl), (wl (i := 431) rfl rfl)⟩
set_option maxRecDepth 10000 in
theorem wk_Tru_170 : Cond.constantLong RT 170 (zj 2) ∈ al := wl (i := 415) rfl rfl
theorem cl_Tru_172 : ClV RT 172 ky_Grp_beProduct 2 := ⟨⟨Or.inl (wl (i := 201) rfl rfl), (wl (i := 3) rfl rfl), by decide, by decide, by decide +kernel⟩, (wl (i := 202) rfl rfl), (wl (i := 203) rfl rfl)⟩
theorem cl_Tru_176 : ClV RT 176 ky_Dec_read 1 := ⟨⟨Or.inl (wl (i := 221) rfl rfl), (wl (i := 2) rfl rfl), by decide, by decide, by decide +kernel⟩, (wl (i := 222) rfl rfl), (wl (i := 223) rfl rfl)⟩
theorem wk_Tru_179 : Cond.constantLong RT 179 (zj 4503599627370495) ∈ al := wl (i := 190) rfl rfl
theorem cl_Tru_181 : Cond.methodLink RT 181 Lib.Math.max.name ∈ al := (wl (i := 194) rfl rfl)
set_option maxRecDepth 10000 in
theorem fl_Mod_9 : Fl RM 9 4 2 := ⟨"DecimalTruthModel", TF4, 19, rfl, by decide, rfl, tu_4, Or.inl (wl (i := 461) rfl rfl)⟩
set_option maxRecDepth 10000 in
theorem fl_Mod_13 : Fl RM 13 4 7 := ⟨"DecimalTruthModel", TF4, 19, rfl, by decide, rfl, tu_4, Or.inl (wl (i := 466) rfl rfl)⟩
set_option maxRecDepth 10000 in
theorem fl_Mod_16 : Fl RM 16 4 11 := ⟨"DecimalTruthModel", TF4, 19, rfl, by decide, rfl, tu_4, Or.inl (wl (i := 470) rfl rfl)⟩
set_option maxRecDepth 10000 in
theorem fl_Mod_19 : Fl RM 19 4 12 := ⟨"DecimalTruthModel", TF4, 19, rfl, by decide, rfl, tu_4, Or.inl (wl (i := 471) rfl rfl)⟩
set_option maxRecDepth 10000 in
theorem fl_Mod_22 : Fl RM 22 4 13 := ⟨"DecimalTruthModel", TF4, 19, rfl, by decide, rfl, tu_4, Or.inl (wl (i := 472) rfl rfl)⟩
set_option maxRecDepth 10000 in
theorem fl_Mod_25 : Fl RM 25 4 14 := ⟨"DecimalTruthModel", TF4, 19, rfl, by decide, rfl, tu_4, Or.inl (wl (i := 473) rfl rfl)⟩
set_option maxRecDepth 10000 in
theorem fl_Mod_28 : Fl RM 28 4 0 := ⟨"DecimalTruthModel", TF4, 19, rfl, by decide, rfl, tu_4, Or.inl (wl (i := 459) rfl rfl)⟩
set_option maxRecDepth 10000 in
theorem cl_Mod_32 : ClV RM 32 ky_Mod_fails 2 := ⟨⟨Or.inl (wl (i := 525) rfl rfl), (wl (i := 5) rfl rfl), by decide, by decide, by decide +kernel⟩, (wl (i := 527) rfl rfl), (wp (i := 15) rfl)⟩
set_option maxRecDepth 10000 in
theorem wk_Mod_36 : Cond.constantLong RM 36 (zj 4503599627370495) ∈ al := wl (i := 529) rfl rfl
set_option maxRecDepth 10000 in
theorem wk_Mod_38 : Cond.constantLong RM 38 (zj 4503599627370496) ∈ al := wl (i := 530) rfl rfl
set_option maxRecDepth 10000 in
theorem fl_Mod_40 : Fl RM 40 4 8 := ⟨"DecimalTruthModel", TF4, 19, rfl, by decide, rfl, tu_4, Or.inl (wl (i := 467) rfl rfl)⟩
set_option maxRecDepth 10000 in
theorem fl_Mod_43 : Fl RM 43 4 9 := ⟨"DecimalTruthModel", TF4, 19, rfl, by decide, rfl, tu_4, Or.inl (wl (i := 468) rfl rfl)⟩
set_option maxRecDepth 10000 in
theorem wk_Mod_46 : Cond.constantLong RM 46 (zj 10) ∈ al := wl (i := 531) rfl rfl
set_option maxRecDepth 10000 in
theorem cl_Mod_48 : ClV RM 48 ky_Mod_twice 0 := ⟨⟨Or.inl (wl (i := 532) rfl rfl), (wl (i := 5) rfl rfl), by decide, by decide, by decide +kernel⟩, (wl (i := 534) rfl rfl), (wp (i := 16) rfl)⟩
set_option maxRecDepth 10000 in
theorem cl_Mod_51 : ClV RM 51 ky_Mod_half 0 := ⟨⟨Or.inl (wl (i := 536) rfl rfl), (wl (i := 5) rfl rfl), by decide, by decide, by decide +kernel⟩, (wl (i := 538) rfl rfl), (wp (i := 17) rfl)⟩
set_option maxRecDepth 10000 in
theorem fl_Mod_54 : Fl RM 54 4 1 := ⟨"DecimalTruthModel", TF4, 19, rfl, by decide, rfl, tu_4, Or.inl (wl (i := 460) rfl rfl)⟩
set_option maxRecDepth 10000 in
theorem cl_Mod_58 : ClV RM 58 ky_Mod_keep 0 := ⟨⟨Or.inl (wl (i := 540) rfl rfl), (wl (i := 5) rfl rfl), by decide, by decide, by decide +kernel⟩, (wl (i := 542) rfl rfl), (wp (i := 18) rfl)⟩
set_option maxRecDepth 10000 in
theorem fl_Mod_61 : Fl RM 61 4 3 := ⟨"DecimalTruthModel", TF4, 19, rfl, by decide, rfl, tu_4, Or.inl (wl (i := 462) rfl rfl)⟩
set_option maxRecDepth 10000 in
theorem fl_Mod_64 : Fl RM 64 4 4 := ⟨"DecimalTruthModel", TF4, 19, rfl, by decide, rfl, tu_4, Or.inl (wl (i := 463) rfl rfl)⟩
set_option maxRecDepth 10000 in
theorem fl_Mod_67 : Fl RM 67 4 5 := ⟨"DecimalTruthModel", TF4, 19, rfl, by decide, rfl, tu_4, Or.inl (wl (i := 464) rfl rfl)⟩
set_option maxRecDepth 10000 in
theorem fl_Mod_70 : Fl RM 70 4 6 := ⟨"DecimalTruthModel", TF4, 19, rfl, by decide, rfl, tu_4, Or.inl (wl (i := 465) rfl rfl)⟩
set_option maxRecDepth 10000 in
theorem wk_Mod_73 : Cond.constantLong RM 73 (zj 9) ∈ al := wl (i := 548) rfl rfl
set_option maxRecDepth 10000 in
theorem cl_Mod_75 : ClS RM 75 ky_Mod_in 3 := ⟨⟨Or.inl (wl (i := 549) rfl rfl), (wl (i := 5) rfl rfl), by decide, by decide, by decide +kernel⟩, (wl (i := 550) rfl rfl)⟩
set_option maxRecDepth 10000 in
theorem wk_Mod_79 : Cond.constantLong RM 79 (zj (-1000)) ∈ al := wl (i := 556) rfl rfl
set_option maxRecDepth 10000 in
theorem wk_Mod_81 : Cond.constantLong RM 81 (zj 1000) ∈ al := wl (i := 557) rfl rfl
set_option maxRecDepth 10000 in
theorem cl_Mod_83 : ClV RM 83 ky_Mod_nothing 0 := ⟨⟨Or.inl (wl (i := 568) rfl rfl), (wl (i := 5) rfl rfl), by decide, by decide, by decide +kernel⟩, (wl (i := 570) rfl rfl), (wp (i := 20) rfl)⟩
set_option maxRecDepth 10000 in
theorem wk_Mod_86 : Cond.constantLong RM 86 (zj 800) ∈ al := wl (i := 562) rfl rfl
set_option maxRecDepth 10000 in
theorem wk_Mod_88 : Cond.constantLong RM 88 (zj (-1)) ∈ al := wl (i := 563) rfl rfl
set_option maxRecDepth 10000 in
theorem cl_Mod_90 : ClV RM 90 ky_Mod_cut 1 := ⟨⟨Or.inl (wl (i := 564) rfl rfl), (wl (i := 5) rfl rfl), by decide, by decide, by decide +kernel⟩, (wl (i := 566) rfl rfl), (wp (i := 19) rfl)⟩
set_option maxRecDepth 10000 in
theorem wk_Mod_94 : Cond.constantLong RM 94 (zj 2000) ∈ al := wl (i := 576) rfl rfl
set_option maxRecDepth 10000 in
theorem fl_Mod_96 : Fl RM 96 4 10 := ⟨"DecimalTruthModel", TF4, 19, rfl, by decide, rfl, tu_4, Or.inl (wl (i := 469) rfl rfl)⟩
set_option maxRecDepth 10000 in
theorem cl_Mod_100 : ClV RM 100 ky_Mod_isNothing 2 := ⟨⟨Or.inl (wl (i := 585) rfl rfl), (wl (i := 5) rfl rfl), by decide, by decide, by decide +kernel⟩, (wl (i := 587) rfl rfl), (wp (i := 22) rfl)⟩
set_option maxRecDepth 10000 in
theorem cl_Mod_104 : ClV RM 104 ky_Mod_put 4 := ⟨⟨Or.inl (wl (i := 589) rfl rfl), (wl (i := 5) rfl rfl), by decide, by decide, by decide +kernel⟩, (wl (i := 591) rfl rfl), (wp (i := 23) rfl)⟩
set_option maxRecDepth 10000 in
theorem wk_Mod_108 : Cond.constantLong RM 108 (zj 9007199254740992) ∈ al := wl (i := 593) rfl rfl
set_option maxRecDepth 10000 in
theorem cl_Mod_110 : ClV RM 110 ky_Mod_finds 1 := ⟨⟨Or.inl (wl (i := 581) rfl rfl), (wl (i := 5) rfl rfl), by decide, by decide, by decide +kernel⟩, (wl (i := 583) rfl rfl), (wp (i := 21) rfl)⟩
set_option maxRecDepth 10000 in
theorem wk_Mod_114 : Cond.constantLong RM 114 (zj (-9223372036854775808)) ∈ al := wl (i := 594) rfl rfl
set_option maxRecDepth 10000 in
theorem wk_Mod_116 : Cond.constantLong RM 116 (zj 2) ∈ al := wl (i := 599) rfl rfl
set_option maxRecDepth 10000 in
theorem cl_Mod_118 : ClV RM 118 ky_Mod_exactly 2 := ⟨⟨Or.inl (wl (i := 600) rfl rfl), (wl (i := 5) rfl rfl), by decide, by decide, by decide +kernel⟩, (wl (i := 602) rfl rfl), (wp (i := 24) rfl)⟩
set_option maxRecDepth 10000 in
theorem fl_Mod_122 : Fl RM 122 4 17 := ⟨"DecimalTruthModel", TF4, 19, rfl, by decide, rfl, tu_4, Or.inl (wl (i := 476) rfl rfl)⟩
set_option maxRecDepth 10000 in
theorem fl_Mod_125 : Fl RM 125 4 18 := ⟨"DecimalTruthModel", TF4, 19, rfl, by decide, rfl, tu_4, Or.inl (wl (i := 477) rfl rfl)⟩
set_option maxRecDepth 10000 in
theorem wk_Mod_128 : Cond.constantLong RM 128 (zj 4) ∈ al := wl (i := 604) rfl rfl
set_option maxRecDepth 10000 in
theorem fl_Mod_130 : Fl RM 130 4 15 := ⟨"DecimalTruthModel", TF4, 19, rfl, by decide, rfl, tu_4, Or.inl (wl (i := 474) rfl rfl)⟩
set_option maxRecDepth 10000 in
theorem fl_Mod_133 : Fl RM 133 4 16 := ⟨"DecimalTruthModel", TF4, 19, rfl, by decide, rfl, tu_4, Or.inl (wl (i := 475) rfl rfl)⟩
set_option maxRecDepth 10000 in
theorem cl_Mod_136 : ClV RM 136 ky_Mod_compare 3 := ⟨⟨Or.inl (wl (i := 605) rfl rfl), (wl (i := 5) rfl rfl), by decide, by decide, by decide +kernel⟩, (wl (i := 607) rfl rfl), (wp (i := 25) rfl)⟩
theorem fl_Dec_9 : Fl RD 9 0 0 := ⟨"DecimalTruth$Decimal", TF0, 3, rfl, by decide, rfl, tu_0, Or.inl (wl (i := 31) rfl rfl)⟩
theorem fl_Dec_15 : Fl RD 15 0 1 := ⟨"DecimalTruth$Decimal", TF0, 3, rfl, by decide, rfl, tu_0, Or.inl (wl (i := 34) rfl rfl)⟩
theorem fl_Dec_19 : Fl RD 19 0 2 := ⟨"DecimalTruth$Decimal", TF0, 3, rfl, by decide, rfl, tu_0, Or.inl (wl (i := 37) rfl rfl)⟩
set_option maxRecDepth 10000 in
theorem cl_Dec_22 : Cond.methodLink RD 22 arraycopyName ∈ al := (wl (i := 425) rfl rfl)
theorem cl_Dec_28 : ClV RD 28 ky_Dec_beZero 0 := ⟨⟨Or.inl (wl (i := 309) rfl rfl), (wl (i := 2) rfl rfl), by decide, by decide, by decide +kernel⟩, (wl (i := 290) rfl rfl), (wl (i := 291) rfl rfl)⟩
theorem cl_Dec_31 : ClV RD 31 ky_Dec_goesUpBehind 1 := ⟨⟨Or.inl (wl (i := 310) rfl rfl), (wl (i := 2) rfl rfl), by decide, by decide, by decide +kernel⟩, (wl (i := 311) rfl rfl), (wl (i := 312) rfl rfl)⟩
theorem cl_Dec_35 : ClV RD 35 ky_Dec_settle 1 := ⟨⟨Or.inl (wl (i := 314) rfl rfl), (wl (i := 2) rfl rfl), by decide, by decide, by decide +kernel⟩, (wl (i := 315) rfl rfl), (wl (i := 316) rfl rfl)⟩
theorem cl_Dec_39 : ClV RD 39 ky_Dec_goUp 0 := ⟨⟨Or.inl (wl (i := 318) rfl rfl), (wl (i := 2) rfl rfl), by decide, by decide, by decide +kernel⟩, (wl (i := 320) rfl rfl), (wp (i := 8) rfl)⟩
theorem cl_Dec_42 : ClV RD 42 ky_Dec_dropZerosAtEnd 0 := ⟨⟨Or.inl (wl (i := 239) rfl rfl), (wl (i := 2) rfl rfl), by decide, by decide, by decide +kernel⟩, (wl (i := 241) rfl rfl), (wp (i := 3) rfl)⟩
set_option maxRecDepth 10000 in
theorem cl_Dec_45 : ClS RD 45 ky_JInt_compare 2 := ⟨⟨Or.inl (wl (i := 433) rfl rfl), (wl (i := 14) rfl rfl), by decide, by decide, by decide +kernel⟩, (wl (i := 434) rfl rfl)⟩
set_option maxRecDepth 10000 in
theorem cl_Dec_51 : Cond.methodLink RD 51 Lib.Math.min.name ∈ al := (wl (i := 436) rfl rfl)
theorem cl_Dec_56 : ClV RD 56 ky_Grp_placeOfFirst 0 := ⟨⟨Or.inl (wl (i := 225) rfl rfl), (wl (i := 3) rfl rfl), by decide, by decide, by decide +kernel⟩, (wl (i := 226) rfl rfl), (wl (i := 227) rfl rfl)⟩
theorem fl_Dec_62 : Fl RD 62 1 1 := ⟨"DecimalTruth$Groups", TF1, 3, rfl, by decide, rfl, tu_1, Or.inr ⟨"DecimalTruth", (wn (i := 57) rfl rfl)⟩⟩
theorem fl_Dec_65 : Fl RD 65 1 2 := ⟨"DecimalTruth$Groups", TF1, 3, rfl, by decide, rfl, tu_1, Or.inr ⟨"DecimalTruth", (wn (i := 59) rfl rfl)⟩⟩
theorem fl_Dec_68 : Fl RD 68 1 0 := ⟨"DecimalTruth$Groups", TF1, 3, rfl, by decide, rfl, tu_1, Or.inr ⟨"DecimalTruth", (wn (i := 55) rfl rfl)⟩⟩
theorem cl_Dec_72 : ClV RD 72 ky_Dec_readGroup 1 := ⟨⟨Or.inl (wl (i := 229) rfl rfl), (wl (i := 2) rfl rfl), by decide, by decide, by decide +kernel⟩, (wl (i := 231) rfl rfl), (wp (i := 2) rfl)⟩
theorem wk_Dec_76 : Cond.constantLong RD 76 (zj 100000000) ∈ al := wl (i := 233) rfl rfl
theorem wk_Dec_78 : Cond.constantLong RD 78 (zj 10) ∈ al := wl (i := 234) rfl rfl
theorem cl_Dec_80 : ClV RD 80 ky_Dec_append 1 := ⟨⟨Or.inl (wl (i := 235) rfl rfl), (wl (i := 2) rfl rfl), by decide, by decide, by decide +kernel⟩, (wl (i := 236) rfl rfl), (wl (i := 237) rfl rfl)⟩
theorem fl_Grp_11 : Fl RG 11 1 0 := ⟨"DecimalTruth$Groups", TF1, 3, rfl, by decide, rfl, tu_1, Or.inl (wl (i := 54) rfl rfl)⟩
theorem fl_Grp_15 : Fl RG 15 1 1 := ⟨"DecimalTruth$Groups", TF1, 3, rfl, by decide, rfl, tu_1, Or.inl (wl (i := 56) rfl rfl)⟩
theorem fl_Grp_19 : Fl RG 19 1 2 := ⟨"DecimalTruth$Groups", TF1, 3, rfl, by decide, rfl, tu_1, Or.inl (wl (i := 58) rfl rfl)⟩
theorem cl_Grp_22 : ClS RG 22 ky_JArr_fill 2 := ⟨⟨Or.inl (wl (i := 205) rfl rfl), (wl (i := 11) rfl rfl), by decide, by decide, by decide +kernel⟩, (wl (i := 206) rfl rfl)⟩
theorem wk_Grp_28 : Cond.constantLong RG 28 (zj 1000000000) ∈ al := wl (i := 208) rfl rfl
theorem cl_Grp_30 : Cond.methodLink RG 30 Lib.Math.min.name ∈ al := (wl (i := 209) rfl rfl)
theorem cl_Grp_36 : ClV RG 36 ky_Grp_multiply 2 := ⟨⟨Or.inl (wl (i := 212) rfl rfl), (wl (i := 3) rfl rfl), by decide, by decide, by decide +kernel⟩, (wl (i := 213) rfl rfl), (wl (i := 214) rfl rfl)⟩
theorem cl_Grp_40 : ClV RG 40 ky_Grp_divide 2 := ⟨⟨Or.inl (wl (i := 216) rfl rfl), (wl (i := 3) rfl rfl), by decide, by decide, by decide +kernel⟩, (wl (i := 217) rfl rfl), (wl (i := 218) rfl rfl)⟩
theorem fl_Grp_43 : Fl RG 43 0 2 := ⟨"DecimalTruth$Decimal", TF0, 3, rfl, by decide, rfl, tu_0, Or.inr ⟨"DecimalTruth", (wn (i := 38) rfl rfl)⟩⟩
theorem fl_Grp_48 : Fl RG 48 0 1 := ⟨"DecimalTruth$Decimal", TF0, 3, rfl, by decide, rfl, tu_0, Or.inr ⟨"DecimalTruth", (wn (i := 36) rfl rfl)⟩⟩
theorem fl_Grp_51 : Fl RG 51 0 0 := ⟨"DecimalTruth$Decimal", TF0, 3, rfl, by decide, rfl, tu_0, Or.inr ⟨"DecimalTruth", (wn (i := 32) rfl rfl)⟩⟩
theorem cl_Grp_58 : Cond.methodLink RG 58 Lib.Math.max.name ∈ al := (wl (i := 220) rfl rfl)
theorem fl_Wrd_11 : Fl RW 11 2 0 := ⟨"DecimalTruth$Words", TF2, 2, rfl, by decide, rfl, tu_2, Or.inl (wl (i := 74) rfl rfl)⟩
set_option maxRecDepth 10000 in
theorem cl_Wrd_15 : ClS RW 15 ky_JArr_fill 2 := ⟨⟨Or.inl (wl (i := 352) rfl rfl), (wl (i := 11) rfl rfl), by decide, by decide, by decide +kernel⟩, (wl (i := 206) rfl rfl)⟩
set_option maxRecDepth 10000 in
theorem cl_Wrd_23 : ClV RW 23 ky_Grp_divide 2 := ⟨⟨Or.inl (wl (i := 353) rfl rfl), (wl (i := 3) rfl rfl), by decide, by decide, by decide +kernel⟩, (wl (i := 217) rfl rfl), (wl (i := 218) rfl rfl)⟩
set_option maxRecDepth 10000 in
theorem cl_Wrd_27 : ClV RW 27 ky_Wrd_firstThatIsNotZero 1 := ⟨⟨Or.inl (wl (i := 354) rfl rfl), (wl (i := 4) rfl rfl), by decide, by decide, by decide +kernel⟩, (wl (i := 356) rfl rfl), (wp (i := 10) rfl)⟩
set_option maxRecDepth 10000 in
theorem cl_Wrd_31 : ClV RW 31 ky_Grp_multiply 2 := ⟨⟨Or.inl (wl (i := 358) rfl rfl), (wl (i := 3) rfl rfl), by decide, by decide, by decide +kernel⟩, (wl (i := 213) rfl rfl), (wl (i := 214) rfl rfl)⟩
set_option maxRecDepth 10000 in
theorem cl_Wrd_34 : ClV RW 34 ky_Grp_hasSomethingBehindPoint 0 := ⟨⟨Or.inl (wl (i := 359) rfl rfl), (wl (i := 3) rfl rfl), by decide, by decide, by decide +kernel⟩, (wl (i := 360) rfl rfl), (wl (i := 361) rfl rfl)⟩
theorem fl_Wrd_38 : Fl RW 38 2 1 := ⟨"DecimalTruth$Words", TF2, 2, rfl, by decide, rfl, tu_2, Or.inl (wl (i := 75) rfl rfl)⟩
set_option maxRecDepth 10000 in
theorem cl_Wrd_42 : ClS RW 42 ky_JLon_numberOfLeadingZeros 1 := ⟨⟨Or.inl (wl (i := 367) rfl rfl), (wl (i := 13) rfl rfl), by decide, by decide, by decide +kernel⟩, (wl (i := 368) rfl rfl)⟩
set_option maxRecDepth 10000 in
theorem wk_Wrd_48 : Cond.constantLong RW 48 (zj 9218868437227405312) ∈ al := wl (i := 374) rfl rfl
set_option maxRecDepth 10000 in
theorem cl_Wrd_50 : ClV RW 50 ky_Wrd_isMoreFrom 1 := ⟨⟨Or.inl (wl (i := 375) rfl rfl), (wl (i := 4) rfl rfl), by decide, by decide, by decide +kernel⟩, (wl (i := 377) rfl rfl), (wp (i := 11) rfl)⟩
set_option maxRecDepth 10000 in
theorem cl_Wrd_54 : ClS RW 54 ky_Wrd_roundHead 3 := ⟨⟨Or.inl (wl (i := 379) rfl rfl), (wl (i := 4) rfl rfl), by decide, by decide, by decide +kernel⟩, (wl (i := 380) rfl rfl)⟩
set_option maxRecDepth 10000 in
theorem cl_Wrd_58 : Cond.methodLink RW 58 Lib.Math.max.name ∈ al := (wl (i := 382) rfl rfl)
theorem cl_Law_7 : ClV RL 7 ky_Tru_set 1 := ⟨⟨Or.inl (wl (i := 113) rfl rfl), (wl (i := 1) rfl rfl), by decide, by decide, by decide +kernel⟩, (wl (i := 114) rfl rfl), (wl (i := 115) rfl rfl)⟩
theorem cl_Law_15 : ClV RL 15 ky_Tru_digit 1 := ⟨⟨Or.inl (wl (i := 251) rfl rfl), (wl (i := 1) rfl rfl), by decide, by decide, by decide +kernel⟩, (wl (i := 252) rfl rfl), (wl (i := 253) rfl rfl)⟩
theorem cl_Law_21 : ClV RL 21 ky_Tru_clear 2 := ⟨⟨Or.inl (wl (i := 284) rfl rfl), (wl (i := 1) rfl rfl), by decide, by decide, by decide +kernel⟩, (wl (i := 285) rfl rfl), (wl (i := 286) rfl rfl)⟩
theorem cl_Law_25 : ClV RL 25 ky_Tru_round 1 := ⟨⟨Or.inl (wl (i := 296) rfl rfl), (wl (i := 1) rfl rfl), by decide, by decide, by decide +kernel⟩, (wl (i := 297) rfl rfl), (wl (i := 298) rfl rfl)⟩
theorem cl_Law_28 : ClV RL 28 ky_Tru_places 1 := ⟨⟨Or.inl (wl (i := 325) rfl rfl), (wl (i := 1) rfl rfl), by decide, by decide, by decide +kernel⟩, (wl (i := 326) rfl rfl), (wl (i := 327) rfl rfl)⟩
theorem cl_Law_31 : ClV RL 31 ky_Tru_nearest 0 := ⟨⟨Or.inl (wl (i := 334) rfl rfl), (wl (i := 1) rfl rfl), by decide, by decide, by decide +kernel⟩, (wl (i := 335) rfl rfl), (wl (i := 336) rfl rfl)⟩
set_option maxRecDepth 10000 in
theorem cl_Law_37 : ClV RL 37 ky_Tru_enough 0 := ⟨⟨Or.inl (wl (i := 403) rfl rfl), (wl (i := 1) rfl rfl), by decide, by decide, by decide +kernel⟩, (wl (i := 404) rfl rfl), (wl (i := 405) rfl rfl)⟩
set_option maxRecDepth 10000 in
theorem cl_Law_41 : ClV RL 41 ky_Tru_look 1 := ⟨⟨Or.inl (wl (i := 440) rfl rfl), (wl (i := 1) rfl rfl), by decide, by decide, by decide +kernel⟩, (wl (i := 441) rfl rfl), (wl (i := 442) rfl rfl)⟩
set_option maxRecDepth 10000 in
theorem cl_Law_44 : ClV RL 44 ky_Tru_count 1 := ⟨⟨Or.inl (wl (i := 448) rfl rfl), (wl (i := 1) rfl rfl), by decide, by decide, by decide +kernel⟩, (wl (i := 449) rfl rfl), (wl (i := 450) rfl rfl)⟩
set_option maxRecDepth 10000 in
theorem wk_JInt_264 : Cond.constant "java/lang/Integer" 264 (zi 65536) ∈ al := wl (i := 373) rfl rfl
set_option maxRecDepth 10000 in
theorem cl_JLon_308 : ClS "java/lang/Long" 308 ky_JInt_numberOfLeadingZeros 1 := ⟨⟨Or.inl (wl (i := 370) rfl rfl), (wl (i := 14) rfl rfl), by decide, by decide, by decide +kernel⟩, (wl (i := 371) rfl rfl)⟩
theorem wm_min_c : Cond.code Lib.Math.min.name Lib.Math.min.code 2 (some .int) ∈ al := wl (i := 211) rfl rfl
theorem wm_min_s : Cond.static Lib.Math.min.name ∈ al := (wl (i := 210) rfl rfl)
theorem wm_max_c : Cond.code Lib.Math.max.name Lib.Math.max.code 2 (some .int) ∈ al := wl (i := 196) rfl rfl
theorem wm_max_s : Cond.static Lib.Math.max.name ∈ al := (wl (i := 195) rfl rfl)
theorem wm_init : Cond.initialized "java/lang/Math" ∈ al := (wl (i := 10) rfl rfl)
theorem wa_init : Cond.initialized "java/lang/System" ∈ al := (wl (i := 16) rfl rfl)
set_option maxRecDepth 10000 in
theorem wa_nat : Cond.native arraycopyName ∈ al := (wl (i := 427) rfl rfl)
set_option maxRecDepth 10000 in
theorem wa_sta : Cond.static arraycopyName ∈ al := (wl (i := 426) rfl rfl)
end
section
/-! Numbers in a base: dv b d n is what the first n places of d spell in base b. Draft, not built yet. -/
def dv (b : Nat) (d : Nat → Nat) : Nat → Nat
  | 0 => 0
  | n + 1 => b * dv b d n + d n
theorem dv_0 (b : Nat) (d : Nat → Nat) : dv b d 0 = 0 := rfl
theorem dv_s (b : Nat) (d : Nat → Nat) (n : Nat) : dv b d (n + 1) = b * dv b d n + d n := rfl
theorem dv_cg {b : Nat} {d e : Nat → Nat} {n : Nat} (h : ∀ i, i < n → d i = e i) : dv b d n = dv b e n := by
  induction n with
  | zero => rfl
  | succ n ih => rw [dv_s, dv_s, ih (fun i hi => h i (by omega)), h n (by omega)]
theorem dv_z {b : Nat} {d : Nat → Nat} {n : Nat} (h : ∀ i, i < n → d i = 0) : dv b d n = 0 := by
  induction n with
  | zero => rfl
  | succ n ih => rw [dv_s, ih (fun i hi => h i (by omega)), h n (by omega)]; rfl
theorem dv_lt {b : Nat} {d : Nat → Nat} {n : Nat} (h : ∀ i, i < n → d i < b) : dv b d n < b ^ n := by
  induction n with
  | zero => exact Nat.one_pos
  | succ n ih =>
    have h1 := ih (fun i hi => h i (by omega))
    have h2 := h n (by omega)
    have h3 : b * (dv b d n + 1) ≤ b * b ^ n := Nat.mul_le_mul_left b h1
    rw [Nat.mul_add, Nat.mul_one] at h3
    rw [dv_s, Nat.pow_succ, Nat.mul_comm (b ^ n) b]
    omega
theorem dv_add (b : Nat) (d : Nat → Nat) (m n : Nat) : dv b d (m + n) = dv b d m * b ^ n + dv b (fun i => d (m + i)) n := by
  induction n with
  | zero => simp [dv]
  | succ n ih =>
    show b * dv b d (m + n) + d (m + n) = dv b d m * b ^ (n + 1) + (b * dv b (fun i => d (m + i)) n + d (m + n))
    rw [ih, Nat.pow_succ]
    grind
theorem dv_e0 {b : Nat} {d : Nat → Nat} {n : Nat} (hb : 0 < b) (h : dv b d n = 0) : ∀ i, i < n → d i = 0 := by
  induction n with
  | zero => intro i hi; omega
  | succ n ih =>
    rw [dv_s] at h
    have h1 : b * dv b d n = 0 := by omega
    have h2 : dv b d n = 0 := by
      rcases Nat.mul_eq_zero.mp h1 with h | h
      · omega
      · exact h
    intro i hi
    by_cases hn : i = n
    · subst hn; omega
    · exact ih h2 i (by omega)
theorem dv_inj {b : Nat} {d e : Nat → Nat} {n : Nat} (hd : ∀ i, i < n → d i < b) (he : ∀ i, i < n → e i < b) (h : dv b d n = dv b e n) : ∀ i, i < n → d i = e i := by
  induction n with
  | zero => intro i hi; omega
  | succ n ih =>
    have hd1 := hd n (by omega)
    have he1 := he n (by omega)
    rw [dv_s, dv_s] at h
    have h1 : (b * dv b d n + d n) % b = (b * dv b e n + e n) % b := by rw [h]
    rw [Nat.mul_add_mod, Nat.mul_add_mod, Nat.mod_eq_of_lt hd1, Nat.mod_eq_of_lt he1] at h1
    have h2 : (b * dv b d n + d n) / b = (b * dv b e n + e n) / b := by rw [h]
    rw [Nat.mul_add_div (by omega), Nat.mul_add_div (by omega), Nat.div_eq_of_lt hd1, Nat.div_eq_of_lt he1] at h2
    intro i hi
    by_cases hn : i = n
    · subst hn; exact h1
    · exact ih (fun j hj => hd j (by omega)) (fun j hj => he j (by omega)) (by omega) i (by omega)
/-- the first place where two rows differ decides -/
theorem dv_lex {b : Nat} {d e : Nat → Nat} {n k : Nat} (hd : ∀ i, i < n → d i < b) (hk : k < n) (hs : ∀ i, i < k → d i = e i) (h : d k < e k) : dv b d n < dv b e n := by
  obtain ⟨r, rfl⟩ : ∃ r, n = (k + 1) + r := ⟨n - (k + 1), by omega⟩
  rw [dv_add, dv_add b e, dv_s, dv_s, dv_cg hs]
  have h1 : dv b (fun i => d (k + 1 + i)) r < b ^ r := dv_lt (fun i hi => hd _ (by omega))
  have h2 : (b * dv b e k + d k + 1) * b ^ r ≤ (b * dv b e k + e k) * b ^ r := Nat.mul_le_mul_right _ (by omega)
  rw [Nat.add_mul, Nat.one_mul] at h2
  omega
theorem dv_le {b : Nat} {d : Nat → Nat} {n : Nat} (h0 : 0 < n) (h : 0 < d 0) : b ^ (n - 1) ≤ dv b d n := by
  obtain ⟨r, rfl⟩ : ∃ r, n = 1 + r := ⟨n - 1, by omega⟩
  rw [dv_add, show 1 + r - 1 = r by omega]
  have h1 : dv b d 1 = d 0 := by rw [dv_s, dv_0]; omega
  rw [h1]
  have h2 : 1 * b ^ r ≤ d 0 * b ^ r := Nat.mul_le_mul_right _ h
  omega
/-! Decimals: sv K d n p is 0.DIGITS * 10 ** p in units of 10 ** -K. -/
def sv (K : Nat) (d : Nat → Nat) (n : Nat) (p : Int) : Nat := dv 10 d n * 10 ^ (p - n + K).toNat
/-- the first one and the last one are not 0 -/
def Nrm (d : Nat → Nat) (n : Nat) : Prop := (∀ i, i < n → d i < 10) ∧ (0 < n → 0 < d 0 ∧ 0 < d (n - 1))
theorem sv_hi {K : Nat} {d : Nat → Nat} {n : Nat} {p : Int} (h : Nrm d n) (hp : (n : Int) ≤ p + K) : sv K d n p < 10 ^ (p + K).toNat := by
  have h1 := dv_lt h.1
  have h2 : (p + K).toNat = n + (p - n + K).toNat := by omega
  rw [sv, h2, Nat.pow_add]
  exact Nat.mul_lt_mul_of_pos_right h1 (Nat.pow_pos (by omega))
theorem sv_lo {K : Nat} {d : Nat → Nat} {n : Nat} {p : Int} (h : Nrm d n) (h0 : 0 < n) (hp : (n : Int) ≤ p + K) : 10 ^ (p - 1 + K).toNat ≤ sv K d n p := by
  have h1 := dv_le (b := 10) h0 (h.2 h0).1
  have h2 : (p - 1 + K).toNat = (n - 1) + (p - n + K).toNat := by omega
  rw [sv, h2, Nat.pow_add]
  exact Nat.mul_le_mul_right _ h1
theorem sv_place {K : Nat} {d e : Nat → Nat} {n m : Nat} {p q : Int} (hd : Nrm d n) (he : Nrm e m) (h0 : 0 < m) (hp : (n : Int) ≤ p + K) (hq : (m : Int) ≤ q + K) (h : p < q) : sv K d n p < sv K e m q := by
  have h1 := sv_hi hd hp
  have h2 := sv_lo he h0 hq
  have h3 : 10 ^ (p + K).toNat ≤ 10 ^ (q - 1 + K).toNat := Nat.pow_le_pow_right (by omega) (by omega)
  omega
/-- a row drawn out to N places by zeros -/
def ext0 (d : Nat → Nat) (n : Nat) : Nat → Nat := fun i => if i < n then d i else 0
theorem dv_ext {b : Nat} (d : Nat → Nat) (n k : Nat) : dv b (ext0 d n) (n + k) = dv b d n * b ^ k := by
  rw [dv_add, dv_cg (e := d) (fun i hi => by simp [ext0, hi]), dv_z (d := fun i => ext0 d n (n + i)) (fun i _ => by show ext0 d n (n + i) = 0; unfold ext0; rw [if_neg (by omega)])]
  rfl
theorem sv_ext {K : Nat} (d : Nat → Nat) {n N : Nat} {p : Int} (hn : n ≤ N) (hN : (N : Int) ≤ p + K) : sv K d n p = dv 10 (ext0 d n) N * 10 ^ (p - N + K).toNat := by
  obtain ⟨k, rfl⟩ : ∃ k, N = n + k := ⟨N - n, by omega⟩
  rw [dv_ext, sv, Nat.mul_assoc, ← Nat.pow_add]
  congr 2
  omega
/-- digits at the same place: the first that differs decides; where the shorter one ends, zeros stand -/
theorem sv_lex {K : Nat} {d e : Nat → Nat} {n m k : Nat} {p : Int} (hd : ∀ i, i < n → d i < 10) (hk : k < n ∨ k < m) (hp : (n : Int) ≤ p + K) (hq : (m : Int) ≤ p + K)
    (hs : ∀ i, i < k → ext0 d n i = ext0 e m i) (h : ext0 d n k < ext0 e m k) : sv K d n p < sv K e m p := by
  have hN : ((max n m : Nat) : Int) ≤ p + K := by omega
  rw [sv_ext d (Nat.le_max_left n m) hN, sv_ext e (Nat.le_max_right n m) hN]
  refine Nat.mul_lt_mul_of_pos_right ?_ (Nat.pow_pos (by omega))
  refine dv_lex (k := k) (fun i _ => ?_) (by omega) hs h
  unfold ext0
  split
  · exact hd i (by assumption)
  · omega
theorem sv_same {K : Nat} {d e : Nat → Nat} {n m : Nat} {p : Int} (hp : (n : Int) ≤ p + K) (hq : (m : Int) ≤ p + K) (hs : ∀ i, i < n ∨ i < m → ext0 d n i = ext0 e m i) : sv K d n p = sv K e m p := by
  have hN : ((max n m : Nat) : Int) ≤ p + K := by omega
  rw [sv_ext d (Nat.le_max_left n m) hN, sv_ext e (Nat.le_max_right n m) hN]
  congr 1
  exact dv_cg (fun i hi => hs i (by omega))
/-- one value, one row of digits -/
theorem sv_inj {K : Nat} {d e : Nat → Nat} {n m : Nat} {p q : Int} (hd : Nrm d n) (he : Nrm e m) (hn : 0 < n) (hm : 0 < m) (hp : (n : Int) ≤ p + K) (hq : (m : Int) ≤ q + K) (h : sv K d n p = sv K e m q) :
    p = q ∧ n = m ∧ ∀ i, i < n → d i = e i := by
  have hpq : p = q := by
    rcases Int.lt_trichotomy p q with h1 | h1 | h1
    · have := sv_place hd he hm hp hq h1; omega
    · exact h1
    · have := sv_place he hd hn hq hp h1; omega
  subst hpq
  have key : ∀ i, ext0 d n i = ext0 e m i := by
    intro i
    by_cases hall : ∀ j, ext0 d n j = ext0 e m j
    · exact hall i
    · obtain ⟨j, hj⟩ := Classical.not_forall.mp hall
      obtain ⟨k, hk, hl⟩ := pk_least (fun j => ext0 d n j ≠ ext0 e m j) ⟨j, hj⟩
      have hs : ∀ i, i < k → ext0 d n i = ext0 e m i := fun i hi => Classical.not_not.mp (hl i hi)
      have hr : k < n ∨ k < m := by
        by_cases h1 : k < n ∨ k < m
        · exact h1
        · exact absurd (by unfold ext0; rw [if_neg (by omega), if_neg (by omega)]) hk
      rcases Nat.lt_or_gt_of_ne hk with h1 | h1
      · have := sv_lex hd.1 hr hp hq hs h1; omega
      · have := sv_lex he.1 (by omega) hq hp (fun i hi => (hs i hi).symm) h1; omega
  have hnm : n = m := by
    rcases Nat.lt_trichotomy n m with h1 | h1 | h1
    · have h2 := key (m - 1)
      have h3 := (he.2 hm).2
      unfold ext0 at h2
      rw [if_neg (by omega), if_pos (by omega)] at h2
      omega
    · exact h1
    · have h2 := key (n - 1)
      have h3 := (hd.2 hn).2
      unfold ext0 at h2
      rw [if_pos (by omega), if_neg (by omega)] at h2
      omega
  subst hnm
  refine ⟨rfl, rfl, fun i hi => ?_⟩
  have h2 := key i
  unfold ext0 at h2
  rwa [if_pos hi, if_pos hi] at h2
end
section
/-! Doubles by the bits of their size (without sign): gd r = fc r * 2 ** pw r in units of 2 ** -1074; md r: the middle of r and r + 1, in units of 2 ** -1075. Draft, not built yet. -/
def fc (r : Nat) : Nat := if r < 4503599627370496 then r else r % 4503599627370496 + 4503599627370496
def pw (r : Nat) : Nat := max (r / 4503599627370496) 1 - 1
def gd (r : Nat) : Nat := fc r * 2 ^ pw r
def md (r : Nat) : Nat := (2 * fc r + 1) * 2 ^ pw r
theorem rep_r (r : Nat) : r = pw r * 4503599627370496 + fc r ∧ fc r < 9007199254740992 ∧ (pw r = 0 ∨ 4503599627370496 ≤ fc r) := by
  unfold fc pw
  split <;> omega
theorem gd_qf {q f : Nat} (hf : f ≤ 9007199254740992) (hq : q = 0 ∨ 4503599627370496 ≤ f) : gd (q * 4503599627370496 + f) = f * 2 ^ q := by
  rcases Nat.lt_or_ge f 4503599627370496 with h | h
  · have : q = 0 := by omega
    subst this
    unfold gd
    rw [show fc (0 * 4503599627370496 + f) = f by unfold fc; rw [if_pos (by omega)]; omega, show pw (0 * 4503599627370496 + f) = 0 by unfold pw; omega]
  · rcases Nat.lt_or_ge f 9007199254740992 with h1 | h1
    · unfold gd
      rw [show fc (q * 4503599627370496 + f) = f by unfold fc; rw [if_neg (by omega)]; omega, show pw (q * 4503599627370496 + f) = q by unfold pw; omega]
    · have : f = 9007199254740992 := by omega
      subst this
      unfold gd
      rw [show fc (q * 4503599627370496 + 9007199254740992) = 4503599627370496 by unfold fc; rw [if_neg (by omega)]; omega, show pw (q * 4503599627370496 + 9007199254740992) = q + 1 by unfold pw; omega, Nat.pow_succ]
      generalize 2 ^ q = z
      omega
theorem gd_s (r : Nat) : gd (r + 1) = gd r + 2 ^ pw r := by
  obtain ⟨h1, h2, h3⟩ := rep_r r
  have h4 : r + 1 = pw r * 4503599627370496 + (fc r + 1) := by omega
  have h5 := gd_qf (q := pw r) (f := fc r + 1) (by omega) (by omega)
  rw [← h4] at h5
  rw [h5, gd, Nat.add_mul, Nat.one_mul]
theorem md_gd (r : Nat) : md r = gd r + gd (r + 1) := by
  rw [gd_s, md, gd]
  generalize 2 ^ pw r = z
  rw [Nat.add_mul, Nat.mul_assoc]
  omega
theorem gd_lt {a b : Nat} (h : a < b) : gd a < gd b := by
  induction b with
  | zero => omega
  | succ b ih =>
    have h1 := gd_s b
    have h2 : 0 < 2 ^ pw b := Nat.pow_pos (by omega)
    rcases Nat.lt_or_ge a b with h3 | h3
    · have := ih h3; omega
    · have : a = b := by omega
      subst this; omega
theorem md_lt {a b : Nat} (h : a < b) : md a < md b := by
  have h1 := md_gd a
  have h2 := md_gd b
  have h3 := gd_lt h
  have h4 : gd (a + 1) < gd (b + 1) := gd_lt (by omega)
  omega
theorem md_le {a b : Nat} (h : a ≤ b) : md a ≤ md b := by
  rcases Nat.lt_or_ge a b with h1 | h1
  · exact Nat.le_of_lt (md_lt h1)
  · have : a = b := by omega
    subst this; exact Nat.le_refl _
/-- X / U, in units of 2 ** -1075, is nearest to double r -/
def Near (X U r : Nat) : Prop := (X < md r * U ∨ X = md r * U ∧ r % 2 = 0) ∧ (r = 0 ∨ md (r - 1) * U < X ∨ X = md (r - 1) * U ∧ r % 2 = 0)
theorem near_one0 {X U r t : Nat} (hU : 0 < U) (h1 : Near X U r) (h2 : Near X U t) (h : r < t) : False := by
  obtain ⟨a, -⟩ := h1
  obtain ⟨-, b⟩ := h2
  have h3 : md r * U ≤ md (t - 1) * U := Nat.mul_le_mul_right U (md_le (by omega))
  have h4 : md r * U = md (t - 1) * U → r = t - 1 := by
    intro e
    have e1 := Nat.eq_of_mul_eq_mul_right hU e
    rcases Nat.lt_or_ge r (t - 1) with h5 | h5
    · have := md_lt h5; omega
    · omega
  omega
theorem near_one {X U r t : Nat} (hU : 0 < U) (h1 : Near X U r) (h2 : Near X U t) : r = t := by
  rcases Nat.lt_trichotomy r t with h | h | h
  · exact (near_one0 hU h1 h2 h).elim
  · exact h
  · exact (near_one0 hU h2 h1 h).elim
/-- a size between f and f + 1 times 2 ** q goes down -/
theorem near_dn {X U q f : Nat} (hf : f < 9007199254740992) (hq : q = 0 ∨ 4503599627370496 ≤ f) (hU : 0 < U) (lo : 2 * f * 2 ^ q * U ≤ X) (hi : X < (2 * f + 1) * 2 ^ q * U ∨ X = (2 * f + 1) * 2 ^ q * U ∧ f % 2 = 0) : Near X U (q * 4503599627370496 + f) := by
  have h1 := gd_qf (q := q) (f := f) (by omega) hq
  have h2 := gd_qf (q := q) (f := f + 1) (by omega) (by omega)
  have h3 : md (q * 4503599627370496 + f) = (2 * f + 1) * 2 ^ q := by
    rw [md_gd, h1, show q * 4503599627370496 + f + 1 = q * 4503599627370496 + (f + 1) by omega, h2]
    generalize 2 ^ q = z
    rw [← Nat.add_mul]
    congr 1
    omega
  refine ⟨by rw [h3]; omega, ?_⟩
  generalize hr : q * 4503599627370496 + f = r at *
  rcases Nat.eq_zero_or_pos r with h0 | h0
  · exact Or.inl h0
  · refine Or.inr (Or.inl ?_)
    have h4 := md_gd (r - 1)
    rw [show r - 1 + 1 = r by omega] at h4
    have h5 : gd (r - 1) < gd r := gd_lt (by omega)
    have h6 : md (r - 1) < 2 * f * 2 ^ q := by
      rw [Nat.mul_assoc, ← h1]; omega
    exact Nat.lt_of_lt_of_le (Nat.mul_lt_mul_of_pos_right h6 hU) lo
/-- .. and up -/
theorem near_up {X U q f : Nat} (hf : f < 9007199254740992) (hq : q = 0 ∨ 4503599627370496 ≤ f) (hU : 0 < U) (hi : X < 2 * (f + 1) * 2 ^ q * U) (lo : (2 * f + 1) * 2 ^ q * U < X ∨ X = (2 * f + 1) * 2 ^ q * U ∧ f % 2 = 1) : Near X U (q * 4503599627370496 + f + 1) := by
  have h1 := gd_qf (q := q) (f := f) (by omega) hq
  have h2 := gd_qf (q := q) (f := f + 1) (by omega) (by omega)
  have h3 : md (q * 4503599627370496 + f) = (2 * f + 1) * 2 ^ q := by
    rw [md_gd, h1, show q * 4503599627370496 + f + 1 = q * 4503599627370496 + (f + 1) by omega, h2]
    generalize 2 ^ q = z
    rw [← Nat.add_mul]
    congr 1
    omega
  rw [show q * 4503599627370496 + (f + 1) = q * 4503599627370496 + f + 1 by omega] at h2
  have hpar : (q * 4503599627370496 + f) % 2 = f % 2 := by omega
  obtain ⟨r, hr⟩ : ∃ r, r = q * 4503599627370496 + f := ⟨_, rfl⟩
  rw [← hr] at h1 h2 h3 hpar ⊢
  refine ⟨Or.inl ?_, Or.inr ?_⟩
  · have h4 := md_gd (r + 1)
    have h5 : gd (r + 1) < gd (r + 1 + 1) := gd_lt (by omega)
    have h6 : 2 * (f + 1) * 2 ^ q < md (r + 1) := by
      rw [Nat.mul_assoc, ← h2]; omega
    exact Nat.lt_trans hi (Nat.mul_lt_mul_of_pos_right h6 hU)
  · rw [show r + 1 - 1 = r by omega, h3]
    omega
/-- BEYOND, by the last double's middle -/
theorem near_inf {X U r : Nat} (hU : 0 < U) (h : Near X U r) : 9218868437227405312 ≤ r ↔ md 9218868437227405311 * U ≤ X := by
  constructor
  · intro h1
    have h2 : md 9218868437227405311 * U ≤ md (r - 1) * U := Nat.mul_le_mul_right U (md_le (by omega))
    have h3 := h.2
    omega
  · intro h1
    refine Classical.byContradiction fun h2 => ?_
    have h3 : md r * U ≤ md 9218868437227405311 * U := Nat.mul_le_mul_right U (md_le (by omega))
    have h4 := h.1
    have h5 : md r * U = md 9218868437227405311 * U → r = 9218868437227405311 := by
      intro e
      have e1 := Nat.eq_of_mul_eq_mul_right hU e
      rcases Nat.lt_or_ge r 9218868437227405311 with h6 | h6
      · have := md_lt h6; omega
      · omega
    omega
end
section
/-! Rows of groups, multiplied and divided from an end: one step of each loop, and what an early stop leaves. ts b R i n: what the n places from i on spell. Draft, not built yet. -/
def ts (b : Nat) (R : Nat → Nat) (i n : Nat) : Nat := dv b (fun k => R (i + k)) n
theorem ts_cg {b : Nat} {R S : Nat → Nat} {i n : Nat} (h : ∀ k, i ≤ k → k < i + n → R k = S k) : ts b R i n = ts b S i n := dv_cg (fun k hk => h (i + k) (by omega) (by omega))
theorem ts_z {b : Nat} {R : Nat → Nat} {i n : Nat} (h : ∀ k, i ≤ k → k < i + n → R k = 0) : ts b R i n = 0 := dv_z (fun k hk => h (i + k) (by omega) (by omega))
theorem ts_lt {b : Nat} {R : Nat → Nat} {i n : Nat} (h : ∀ k, i ≤ k → k < i + n → R k < b) : ts b R i n < b ^ n := dv_lt (fun k hk => h (i + k) (by omega) (by omega))
theorem ts_hd (b : Nat) (R : Nat → Nat) (i n : Nat) : ts b R i (n + 1) = R i * b ^ n + ts b R (i + 1) n := by
  have h : ts b R i (n + 1) = ts b R i (1 + n) := by rw [Nat.add_comm]
  rw [h]
  unfold ts
  rw [dv_add]
  have h1 : dv b (fun k => R (i + k)) 1 = R i := by rw [dv_s, dv_0]; simp
  rw [h1]
  congr 1
  exact dv_cg (fun k _ => by rw [Nat.add_assoc])
theorem dv_ts (b : Nat) (R : Nat → Nat) (m n : Nat) : dv b R (m + n) = dv b R m * b ^ n + ts b R m n := dv_add b R m n
theorem ts_e0 {b : Nat} {R : Nat → Nat} {i n : Nat} (hb : 0 < b) (h : ts b R i n = 0) : ∀ k, i ≤ k → k < i + n → R k = 0 := fun k h1 h2 => by
  have := dv_e0 hb h (k - i) (by omega)
  rwa [show i + (k - i) = k by omega] at this
/-- leading zeros -/
theorem ts_lead {b : Nat} {R : Nat → Nat} {i j n : Nat} (hij : i ≤ j) (hn : j ≤ n) (h : ∀ k, i ≤ k → k < j → R k = 0) : ts b R i (n - i) = ts b R j (n - j) := by
  obtain ⟨t, rfl⟩ : ∃ t, j = i + t := ⟨j - i, by omega⟩
  clear hij
  induction t with
  | zero => rfl
  | succ t ih =>
    rw [ih (by omega) (fun k h1 h2 => h k h1 (by omega)), show n - (i + t) = (n - (i + (t + 1))) + 1 by omega, ts_hd, h (i + t) (by omega) (by omega), Nat.zero_mul, Nat.zero_add, Nat.add_assoc]
/-- one group multiplied, from the end: what is done so far and what runs over -/
theorem mul_step {b z i n r o x : Nat} {R R' : Nat → Nat} (hx : x = R i * z + o) (hr : R' i = x % b) (ho : r = x / b) (h : ts b R' (i + 1) n + o * b ^ n = ts b R (i + 1) n * z) :
    ts b R' i (n + 1) + r * b ^ (n + 1) = ts b R i (n + 1) * z := by
  rw [ts_hd, ts_hd, hr, ho, Nat.pow_succ, Nat.add_mul, ← h]
  have h1 : x % b + b * (x / b) = x := Nat.mod_add_div x b
  generalize ts b R' (i + 1) n = u at *
  generalize b ^ n = w at *
  have h2 : x % b * w + u + x / b * (w * b) = (x % b + b * (x / b)) * w + u := by grind
  rw [h2, h1, hx]
  grind
/-- one group divided, from the front -/
theorem div_step {b z i l x y : Nat} {R R' : Nat → Nat} (hx : x = l * b + R i) (hr : R' i = x / z) (hl : y = x % z) (h : dv b R' i * z + l = dv b R i) : dv b R' (i + 1) * z + y = dv b R (i + 1) := by
  rw [dv_s, dv_s, hr, hl, ← h]
  have h1 : x % z + z * (x / z) = x := Nat.mod_add_div x z
  generalize dv b R' i = u at *
  have h2 : (b * u + x / z) * z + x % z = b * u * z + (x % z + z * (x / z)) := by grind
  rw [h2, h1, hx]
  grind
/-- a row that ends in zeros -/
theorem dv_tail {b : Nat} {R : Nat → Nat} {i n : Nat} (hn : i ≤ n) (h : ∀ k, i ≤ k → k < n → R k = 0) : dv b R n = dv b R i * b ^ (n - i) := by
  obtain ⟨t, rfl⟩ : ∃ t, n = i + t := ⟨n - i, by omega⟩
  rw [dv_ts, ts_z (fun k h1 h2 => h k h1 h2), show i + t - i = t by omega]
  rfl
end
section
/-! digits cut and rounded: the same on both sides -/
def dz (f : Nat → Nat) : Nat → Nat
  | 0 => 0
  | l + 1 => if f l = 0 then dz f l else l + 1
def dn (f : Nat → Nat) : Nat → Nat
  | 0 => 0
  | l + 1 => if f l = 9 then dn f l else l + 1
theorem dz_s0 {f : Nat → Nat} {l : Nat} (h : f l = 0) : dz f (l + 1) = dz f l := if_pos h
theorem dz_s1 {f : Nat → Nat} {l : Nat} (h : f l ≠ 0) : dz f (l + 1) = l + 1 := if_neg h
theorem dn_s0 {f : Nat → Nat} {l : Nat} (h : f l = 9) : dn f (l + 1) = dn f l := if_pos h
theorem dn_s1 {f : Nat → Nat} {l : Nat} (h : f l ≠ 9) : dn f (l + 1) = l + 1 := if_neg h
theorem dz_le (f : Nat → Nat) (l : Nat) : dz f l ≤ l := by
  induction l with
  | zero => exact Nat.le_refl _
  | succ l ih => by_cases h : f l = 0
                 · rw [dz_s0 h]; omega
                 · rw [dz_s1 h]; omega
theorem dn_le (f : Nat → Nat) (l : Nat) : dn f l ≤ l := by
  induction l with
  | zero => exact Nat.le_refl _
  | succ l ih => by_cases h : f l = 9
                 · rw [dn_s0 h]; omega
                 · rw [dn_s1 h]; omega
theorem dz_last (f : Nat → Nat) (l : Nat) (h : 0 < dz f l) : f (dz f l - 1) ≠ 0 := by
  induction l with
  | zero => exact absurd h (Nat.lt_irrefl _)
  | succ l ih => by_cases h1 : f l = 0
                 · rw [dz_s0 h1] at h ⊢; exact ih h
                 · rw [dz_s1 h1]; exact h1
theorem dn_last (f : Nat → Nat) (l : Nat) (h : 0 < dn f l) : f (dn f l - 1) ≠ 9 := by
  induction l with
  | zero => exact absurd h (Nat.lt_irrefl _)
  | succ l ih => by_cases h1 : f l = 9
                 · rw [dn_s0 h1] at h ⊢; exact ih h
                 · rw [dn_s1 h1]; exact h1
theorem dz_rest (f : Nat → Nat) (l : Nat) : ∀ i, dz f l ≤ i → i < l → f i = 0 := by
  induction l with
  | zero => intro i _ h; omega
  | succ l ih =>
    intro i h1 h2
    by_cases h : f l = 0
    · rw [dz_s0 h] at h1
      by_cases e : i = l
      · rw [e]; exact h
      · exact ih i h1 (by omega)
    · rw [dz_s1 h] at h1; omega
theorem dn_rest (f : Nat → Nat) (l : Nat) : ∀ i, dn f l ≤ i → i < l → f i = 9 := by
  induction l with
  | zero => intro i _ h; omega
  | succ l ih =>
    intro i h1 h2
    by_cases h : f l = 9
    · rw [dn_s0 h] at h1
      by_cases e : i = l
      · rw [e]; exact h
      · exact ih i h1 (by omega)
    · rw [dn_s1 h] at h1; omega
theorem dz_cg {f g : Nat → Nat} {l : Nat} (h : ∀ i, i < l → f i = g i) : dz f l = dz g l := by
  induction l with
  | zero => rfl
  | succ l ih =>
    have e := h l (by omega)
    by_cases h1 : f l = 0
    · rw [dz_s0 h1, dz_s0 (by omega), ih (fun i hi => h i (by omega))]
    · rw [dz_s1 h1, dz_s1 (by omega)]
theorem dn_cg {f g : Nat → Nat} {l : Nat} (h : ∀ i, i < l → f i = g i) : dn f l = dn g l := by
  induction l with
  | zero => rfl
  | succ l ih =>
    have e := h l (by omega)
    by_cases h1 : f l = 9
    · rw [dn_s0 h1, dn_s0 (by omega), ih (fun i hi => h i (by omega))]
    · rw [dn_s1 h1, dn_s1 (by omega)]
theorem dz_self {f : Nat → Nat} {l : Nat} (h : 0 < l → f (l - 1) ≠ 0) : dz f l = l := by
  cases l with
  | zero => rfl
  | succ l => exact dz_s1 (h (by omega))
theorem un_at (f : Nat → Nat) (k x : Nat) : un f k x k = x := if_pos rfl
theorem un_ne (f : Nat → Nat) {k x i : Nat} (h : i ≠ k) : un f k x i = f i := if_neg h
theorem un_le {f : Nat → Nat} {k x b : Nat} (h : ∀ i, f i ≤ b) (hx : x ≤ b) (i : Nat) : un f k x i ≤ b := by
  unfold un; split
  · exact hx
  · exact h i
theorem un_lt {f : Nat → Nat} {k x b : Nat} (h : ∀ i, f i < b) (hx : x < b) (i : Nat) : un f k x i < b := by
  unfold un; split
  · exact hx
  · exact h i
def upF (f : Nat → Nat) (n : Nat) : Nat → Nat := if dn f n = 0 then un f 0 1 else un f (dn f n - 1) (f (dn f n - 1) + 1)
def upL (f : Nat → Nat) (n : Nat) : Nat := if dn f n = 0 then 1 else dn f n
def upP (f : Nat → Nat) (n : Nat) (p : Int) : Int := if dn f n = 0 then p + 1 else p
def dnP (f : Nat → Nat) (n : Nat) (p : Int) : Int := if dz f n = 0 then 0 else p
def gu (f : Nat → Nat) (len n : Nat) : Bool := if f n = 5 then (!(decide (n + 1 = len)) || !(decide (n = 0) || decide (f (n - 1) % 2 = 0))) else decide (5 < f n)
def ctF (f : Nat → Nat) (len n : Nat) : Nat → Nat := if gu f len n = true then upF f n else f
def ctL (f : Nat → Nat) (len n : Nat) : Nat := if gu f len n = true then upL f n else dz f n
def ctP (f : Nat → Nat) (len n : Nat) (p : Int) : Int := if gu f len n = true then upP f n p else dnP f n p
def cF (f : Nat → Nat) (len : Nat) (z : Int) : Nat → Nat := if 0 ≤ z ∧ z < len then ctF f len z.toNat else f
def cL (f : Nat → Nat) (len : Nat) (z : Int) : Nat := if z < 0 then 0 else if z < len then ctL f len z.toNat else len
def cP (f : Nat → Nat) (len : Nat) (z p : Int) : Int := if z < 0 then 0 else if z < len then ctP f len z.toNat p else p
theorem upF_9 {f : Nat → Nat} {n : Nat} (h : ∀ i, f i ≤ 9) : ∀ i, upF f n i ≤ 9 := by
  intro i; unfold upF; split
  · exact un_le h (by omega) i
  · rename_i h0
    have h1 := dn_last f n (by omega)
    have h2 := h (dn f n - 1)
    exact un_le h (by omega) i
theorem upL_pos (f : Nat → Nat) (n : Nat) : 0 < upL f n := by unfold upL; split <;> omega
theorem upL_le (f : Nat → Nat) (n : Nat) : upL f n ≤ n + 1 := by
  have := dn_le f n
  unfold upL; split <;> omega
theorem upL_le' (f : Nat → Nat) {n : Nat} (h : 0 < n) : upL f n ≤ n := by
  have := dn_le f n
  unfold upL; split <;> omega
theorem upF_last (f : Nat → Nat) (n : Nat) : upF f n (upL f n - 1) ≠ 0 := by
  unfold upF upL
  by_cases h : dn f n = 0
  · rw [if_pos h, if_pos h, un_at]; omega
  · rw [if_neg h, if_neg h, un_at]; omega
theorem upF_dz (f : Nat → Nat) (n : Nat) : dz (upF f n) (upL f n) = upL f n := dz_self (fun _ => upF_last f n)
theorem upF_0 {f : Nat → Nat} {n : Nat} (h : 0 < n → f 0 ≠ 0) : upF f n 0 ≠ 0 := by
  have := dn_le f n
  unfold upF; split
  · rw [un_at]; omega
  · rename_i h0
    by_cases e : dn f n - 1 = 0
    · rw [e, un_at]; omega
    · rw [un_ne _ (fun q => e q.symm)]; exact h (by omega)
theorem gu_cg {f g : Nat → Nat} {len n : Nat} (hn : n < len) (h : ∀ i, i < len → f i = g i) : gu f len n = gu g len n := by
  unfold gu
  rw [h n hn, h (n - 1) (by omega)]
theorem ctF_9 {f : Nat → Nat} {len n : Nat} (h : ∀ i, f i ≤ 9) : ∀ i, ctF f len n i ≤ 9 := by
  intro i; unfold ctF; split
  · exact upF_9 h i
  · exact h i
theorem cF_9 {f : Nat → Nat} {len : Nat} {z : Int} (h : ∀ i, f i ≤ 9) : ∀ i, cF f len z i ≤ 9 := by
  intro i; unfold cF; split
  · exact ctF_9 h i
  · exact h i
theorem ctL_le (f : Nat → Nat) {len n : Nat} (hn : n < len) : ctL f len n ≤ len := by
  have h1 := upL_le f n
  have h2 := dz_le f n
  unfold ctL; split <;> omega
theorem cL_le (f : Nat → Nat) (len : Nat) (z : Int) : cL f len z ≤ len := by
  unfold cL; split
  · omega
  · split
    · exact ctL_le f (by omega)
    · omega
theorem ct_cg {f g : Nat → Nat} {len n : Nat} {p : Int} (hn : n < len) (h : ∀ i, i < len → f i = g i) : ctL f len n = ctL g len n ∧ ctP f len n p = ctP g len n p ∧ ∀ i, i < ctL f len n → ctF f len n i = ctF g len n i := by
  have e1 := gu_cg hn h
  have e2 : dz f n = dz g n := dz_cg (fun i hi => h i (by omega))
  have e3 : dn f n = dn g n := dn_cg (fun i hi => h i (by omega))
  have e4 := dn_le f n
  have e5 := dz_le f n
  unfold ctL ctP ctF
  rw [← e1]
  by_cases hg : gu f len n = true
  · rw [if_pos hg, if_pos hg, if_pos hg, if_pos hg, if_pos hg, if_pos hg]
    unfold upL upP upF
    rw [← e3]
    by_cases h0 : dn f n = 0
    · rw [if_pos h0, if_pos h0, if_pos h0, if_pos h0]
      refine ⟨rfl, rfl, fun i hi => ?_⟩
      have : i = 0 := by omega
      rw [this, un_at, un_at]
    · rw [if_neg h0, if_neg h0, if_neg h0, if_neg h0]
      refine ⟨rfl, rfl, fun i hi => ?_⟩
      by_cases e : i = dn f n - 1
      · rw [e, un_at, un_at, h _ (by omega)]
      · rw [un_ne _ e, un_ne _ e, h i (by omega)]
  · rw [if_neg hg, if_neg hg, if_neg hg, if_neg hg, if_neg hg, if_neg hg]
    unfold dnP
    rw [← e2]
    exact ⟨rfl, rfl, fun i hi => h i (by omega)⟩
theorem c_cg {f g : Nat → Nat} {len : Nat} {z p : Int} (h : ∀ i, i < len → f i = g i) : cL f len z = cL g len z ∧ cP f len z p = cP g len z p ∧ ∀ i, i < cL f len z → cF f len z i = cF g len z i := by
  unfold cL cP cF
  by_cases h1 : z < 0
  · rw [if_pos h1, if_pos h1, if_pos h1, if_pos h1]
    exact ⟨rfl, rfl, fun i hi => by omega⟩
  · rw [if_neg h1, if_neg h1, if_neg h1, if_neg h1]
    by_cases h2 : z < len
    · have h3 : 0 ≤ z ∧ z < len := by omega
      rw [if_pos h2, if_pos h2, if_pos h2, if_pos h2, if_pos h3, if_pos h3]
      exact ct_cg (by omega) h
    · have h3 : ¬ (0 ≤ z ∧ z < len) := by omega
      rw [if_neg h2, if_neg h2, if_neg h2, if_neg h2, if_neg h3, if_neg h3]
      exact ⟨rfl, rfl, h⟩
/-- a kept decimal: digits, the first and the last not 0, no digits at place 0 -/
def Kd (f : Nat → Nat) (len : Nat) (p : Int) : Prop := (∀ i, f i ≤ 9) ∧ len ≤ 800 ∧ (0 < len → f 0 ≠ 0 ∧ f (len - 1) ≠ 0) ∧ (len = 0 → p = 0)
theorem Kd_nrm {f : Nat → Nat} {len : Nat} {p : Int} (h : Kd f len p) : Nrm f len := ⟨fun i _ => by have := h.1 i; omega, fun h0 => ⟨by have := (h.2.2.1 h0).1; omega, by have := (h.2.2.1 h0).2; omega⟩⟩
theorem Kd_cut {f : Nat → Nat} {len : Nat} {z p : Int} (h : Kd f len p) : Kd (cF f len z) (cL f len z) (cP f len z p) := by
  obtain ⟨h9, hl, hn, hp⟩ := h
  refine ⟨cF_9 h9, by have := cL_le f len z; omega, ?_, ?_⟩
  · unfold cL cF
    by_cases h1 : z < 0
    · rw [if_pos h1]; intro h; omega
    · rw [if_neg h1]
      by_cases h2 : z < len
      · rw [if_pos h2, if_pos (show 0 ≤ z ∧ z < len by omega)]
        unfold ctL ctF
        by_cases hg : gu f len z.toNat = true
        · rw [if_pos hg, if_pos hg]
          exact fun _ => ⟨upF_0 (fun _ => (hn (by omega)).1), upF_last _ _⟩
        · rw [if_neg hg, if_neg hg]
          exact fun h0 => ⟨(hn (by omega)).1, dz_last _ _ h0⟩
      · rw [if_neg h2, if_neg (show ¬ (0 ≤ z ∧ z < len) by omega)]
        exact hn
  · unfold cL cP
    by_cases h1 : z < 0
    · rw [if_pos h1, if_pos h1]; exact fun _ => rfl
    · rw [if_neg h1, if_neg h1]
      by_cases h2 : z < len
      · rw [if_pos h2, if_pos h2]
        unfold ctL ctP
        by_cases hg : gu f len z.toNat = true
        · rw [if_pos hg, if_pos hg]
          intro h; have := upL_pos f z.toNat; omega
        · rw [if_neg hg, if_neg hg]
          intro h; unfold dnP; exact if_pos h
      · rw [if_neg h2, if_neg h2]; exact hp
theorem cP_rng {f : Nat → Nat} {len : Nat} {z p lo hi : Int} (h0 : lo ≤ 0) (h1 : 0 ≤ hi) (h2 : lo ≤ p) (h3 : p ≤ hi) : lo ≤ cP f len z p ∧ cP f len z p ≤ hi + 1 := by
  unfold cP ctP upP dnP
  repeat' split
  all_goals omega
end
section
/-! the digits of a row of groups -/
def ge (R : Nat → Nat) (j : Nat) : Nat := R (j / 9) / 10 ^ (8 - j % 9) % 10
theorem ge_lt (R : Nat → Nat) (j : Nat) : ge R j ≤ 9 := by
  have : ge R j < 10 := Nat.mod_lt _ (by omega)
  omega
theorem dg_all {w x : Nat} (hx : x < 10 ^ w) : ∀ k, k ≤ w → dv 10 (fun i => x / 10 ^ (w - 1 - i) % 10) k = x / 10 ^ (w - k) := by
  intro k
  induction k with
  | zero => intro _; rw [dv_0, Nat.sub_zero, Nat.div_eq_of_lt hx]
  | succ k ih =>
    intro hk
    rw [dv_s, ih (by omega)]
    have e : w - k = (w - 1 - k) + 1 := by omega
    have e2 : w - (k + 1) = w - 1 - k := by omega
    rw [e, e2, Nat.pow_succ, ← Nat.div_div_eq_div_mul]
    exact Nat.div_add_mod _ 10
theorem ge_grp {R : Nat → Nat} (i : Nat) (hR : R i < 1000000000) : dv 10 (fun k => ge R (9 * i + k)) 9 = R i := by
  have h := dg_all (w := 9) (x := R i) (by omega) 9 (Nat.le_refl _)
  rw [Nat.sub_self, Nat.pow_zero, Nat.div_one] at h
  rw [← h]
  apply dv_cg
  intro k hk
  unfold ge
  rw [show (9 * i + k) / 9 = i by omega, show (9 * i + k) % 9 = k by omega]
theorem ge_dv {R : Nat → Nat} (n : Nat) (hR : ∀ i, R i < 1000000000) : dv 10 (ge R) (9 * n) = dv 1000000000 R n := by
  induction n with
  | zero => rfl
  | succ n ih =>
    rw [show 9 * (n + 1) = 9 * n + 9 by omega, dv_add, ih, ge_grp n (hR n), dv_s, Nat.mul_comm]
theorem ge_zero {R : Nat → Nat} {j : Nat} (h : R (j / 9) = 0) : ge R j = 0 := by unfold ge; rw [h, Nat.zero_div]
/-- what has been read of the places from s up to j -/
def RS (R : Nat → Nat) (s j len : Nat) (pl : Int) (f : Nat → Nat) : Prop :=
  (∀ i, f i ≤ 9) ∧ ((len = 0 ∧ pl = 315 - (j : Int) ∧ ∀ i, s ≤ i → i < j → ge R i = 0) ∨
  ∃ j0, s ≤ j0 ∧ j0 < j ∧ ge R j0 ≠ 0 ∧ (∀ i, s ≤ i → i < j0 → ge R i = 0) ∧ pl = 315 - (j0 : Int) ∧ len = min 800 (j - j0) ∧ ∀ i, i < len → f i = ge R (j0 + i))
theorem RS_0 (R : Nat → Nat) (s : Nat) (f : Nat → Nat) (h : ∀ i, f i ≤ 9) : RS R s s 0 (315 - (s : Int)) f := ⟨h, Or.inl ⟨rfl, rfl, fun i h1 h2 => by omega⟩⟩
theorem RS_skip {R : Nat → Nat} {s j : Nat} {pl : Int} {f : Nat → Nat} (h : RS R s j 0 pl f) (hd : ge R j = 0) : RS R s (j + 1) 0 (pl - 1) f := by
  obtain ⟨h9, h | ⟨j0, h1, h2, h3, h4, h5, h6, h7⟩⟩ := h
  · refine ⟨h9, Or.inl ⟨rfl, by have := h.2.1; omega, fun i hi hj => ?_⟩⟩
    by_cases e : i = j
    · rw [e]; exact hd
    · exact h.2.2 i hi (by omega)
  · omega
theorem RS_app {R : Nat → Nat} {s j len : Nat} {pl : Int} {f : Nat → Nat} (hs : s ≤ j) (h : RS R s j len pl f) (hd : len ≠ 0 ∨ ge R j ≠ 0) (hl : len < 800) : RS R s (j + 1) (len + 1) pl (un f len (ge R j)) := by
  obtain ⟨h9, h | ⟨j0, h1, h2, h3, h4, h5, h6, h7⟩⟩ := h
  · obtain ⟨a, b, c⟩ := h
    subst a
    refine ⟨un_le h9 (ge_lt R j), Or.inr ⟨j, hs, by omega, by omega, c, b, by omega, fun i hi => ?_⟩⟩
    have : i = 0 := by omega
    rw [this, un_at]; rfl
  · refine ⟨un_le h9 (ge_lt R j), Or.inr ⟨j0, h1, by omega, h3, h4, h5, by omega, fun i hi => ?_⟩⟩
    by_cases e : i = len
    · rw [e, un_at]; congr 1; omega
    · rw [un_ne _ e]; exact h7 i (by omega)
theorem RS_full {R : Nat → Nat} {s j : Nat} {len : Nat} {pl : Int} {f : Nat → Nat} (h : RS R s j len pl f) (hl : 800 ≤ len) : RS R s (j + 1) len pl f := by
  obtain ⟨h9, h | ⟨j0, h1, h2, h3, h4, h5, h6, h7⟩⟩ := h
  · omega
  · exact ⟨h9, Or.inr ⟨j0, h1, by omega, h3, h4, h5, by omega, h7⟩⟩
theorem RS_len {R : Nat → Nat} {s j len : Nat} {pl : Int} {f : Nat → Nat} (h : RS R s j len pl f) : len ≤ 800 := by
  obtain ⟨h9, h | ⟨j0, h1, h2, h3, h4, h5, h6, h7⟩⟩ := h <;> omega
theorem RS_pl {R : Nat → Nat} {s j len : Nat} {pl : Int} {f : Nat → Nat} (hj : j ≤ 1440) (h : RS R s j len pl f) : -1125 ≤ pl ∧ pl ≤ 315 := by
  obtain ⟨h9, h | ⟨j0, h1, h2, h3, h4, h5, h6, h7⟩⟩ := h <;> omega
/-- what was read is the number -/
theorem RS_val {R : Nat → Nat} {fi en len : Nat} {pl : Int} {f : Nat → Nat} (hR : ∀ i, R i < 1000000000) (h1 : ∀ i, i < fi → R i = 0) (h2 : ∀ i, en ≤ i → i < 160 → R i = 0) (hen : en ≤ 160) (hfe : fi ≤ en) (h : RS R (9 * fi) (9 * en) len pl f)
    (hno : ∀ j0, ge R j0 ≠ 0 → (∀ i, i < j0 → ge R i = 0) → 9 * en ≤ j0 + 800) :
    Nrm f (dz f len) ∧ (dz f len = 0 → dv 1000000000 R 160 = 0) ∧ (0 < dz f len → sv 1125 f (dz f len) pl = dv 1000000000 R 160) ∧ ((dz f len : Nat) : Int) ≤ pl + 1125 := by
  have hz1 : ∀ i, i < 9 * fi → ge R i = 0 := fun i hi => ge_zero (h1 _ (by omega))
  have hz2 : ∀ i, 9 * en ≤ i → i < 1440 → ge R i = 0 := fun i hi hj => ge_zero (h2 _ (by omega) (by omega))
  have hdz := dz_le f len
  have hv := ge_dv (R := R) 160 hR
  obtain ⟨h9, h | ⟨j0, g1, g2, g3, g4, g5, g6, g7⟩⟩ := h
  · obtain ⟨a, b, c⟩ := h
    subst a
    have e0 : dz f 0 = 0 := rfl
    rw [e0]
    refine ⟨⟨fun i hi => by omega, fun hi => by omega⟩, fun _ => ?_, fun hi => by omega, by omega⟩
    rw [← hv]
    apply dv_z
    intro i hi
    by_cases q1 : i < 9 * fi
    · exact hz1 i q1
    · by_cases q2 : i < 9 * en
      · exact c i (by omega) q2
      · exact hz2 i (by omega) (by omega)
  · have hlead : ∀ i, i < j0 → ge R i = 0 := by
      intro i hi
      by_cases q1 : i < 9 * fi
      · exact hz1 i q1
      · exact g4 i (by omega) hi
    have hle := hno j0 g3 hlead
    have hlen : len = 9 * en - j0 := by omega
    have hf0 : f 0 ≠ 0 := by rw [g7 0 (by omega)]; exact g3
    have hpos : 0 < dz f len := by
      by_cases q : dz f len = 0
      · exact absurd (dz_rest f len 0 (by omega) (by omega)) hf0
      · omega
    refine ⟨⟨fun i hi => by have := h9 i; omega, fun _ => ⟨by omega, by have := dz_last f len hpos; omega⟩⟩, fun q => by omega, fun _ => ?_, by omega⟩
    rw [← hv]
    have e1 : 9 * 160 = j0 + (dz f len + (1440 - j0 - dz f len)) := by omega
    rw [e1, dv_add, dv_z (n := j0) hlead, Nat.zero_mul, Nat.zero_add, dv_add]
    have e2 : dv 10 (fun i => (fun i => ge R (j0 + i)) (dz f len + i)) (1440 - j0 - dz f len) = 0 := by
      apply dv_z
      intro i hi
      show ge R (j0 + (dz f len + i)) = 0
      by_cases q : dz f len + i < len
      · rw [← g7 _ q]; exact dz_rest f len _ (by omega) q
      · exact hz2 _ (by omega) (by omega)
    rw [e2, Nat.add_zero]
    unfold sv
    rw [dv_cg (d := f) (e := fun i => ge R (j0 + i)) (fun i hi => g7 i (by omega))]
    congr 2
    omega
end
section
/-! how many digits a double has -/
theorem big_768 : 2 ^ 54 * 5 ^ 1075 < 10 ^ 768 := by decide +kernel
theorem dv_first {b : Nat} {d : Nat → Nat} {n j0 : Nat} (hj : j0 < n) (h0 : ∀ i, i < j0 → d i = 0) (h : d j0 ≠ 0) : b ^ (n - 1 - j0) ≤ dv b d n := by
  have e : n = j0 + (1 + (n - 1 - j0)) := by omega
  rw [e, dv_add, dv_z h0, Nat.zero_mul, Nat.zero_add, dv_add, dv_s, dv_0]
  have e1 : j0 + (1 + (n - 1 - j0)) - 1 - j0 = n - 1 - j0 := by omega
  rw [e1]
  have h1 : 1 ≤ b * 0 + d (j0 + 0) := by rw [Nat.add_zero]; omega
  calc b ^ (n - 1 - j0) = 1 * b ^ (n - 1 - j0) := (Nat.one_mul _).symm
    _ ≤ (b * 0 + d (j0 + 0)) * b ^ (n - 1 - j0) := Nat.mul_le_mul_right _ h1
    _ ≤ _ := Nat.le_add_right _ _
/-- behind the last place that 10 to the t divides there are zeros -/
theorem dv_tail0 {d : Nat → Nat} {n t : Nat} (hd : ∀ i, i < n → d i < 10) (ht : t ≤ n) (hdv : 10 ^ t ∣ dv 10 d n) : ∀ i, n - t ≤ i → i < n → d i = 0 := by
  have e : n = (n - t) + t := by omega
  have h1 : dv 10 d n = dv 10 d (n - t) * 10 ^ t + dv 10 (fun i => d (n - t + i)) t := by
    rw [← dv_add, ← e]
  rw [h1] at hdv
  have h2 : 10 ^ t ∣ dv 10 (fun i => d (n - t + i)) t := (Nat.dvd_add_right (Nat.dvd_mul_left _ _)).mp hdv
  have h3 : dv 10 (fun i => d (n - t + i)) t < 10 ^ t := dv_lt (fun i hi => hd _ (by omega))
  have h4 : dv 10 (fun i => d (n - t + i)) t = 0 := Nat.eq_zero_of_dvd_of_lt h2 h3
  intro i h5 h6
  have h7 := dv_e0 (by omega) h4 (i - (n - t)) (by omega)
  have h8 : n - t + (i - (n - t)) = i := by omega
  rw [h8] at h7
  exact h7
/-- of factor * 2 ** power (power below 0, at least -1075) no more than 800 digits are read -/
theorem few_digits {R : Nat → Nat} {en m p : Nat} (hR : ∀ i, R i < 1000000000) (hen : en ≤ 160) (hp : p ≤ 1075) (hm : m < 2 ^ 54) (hv : dv 1000000000 R 160 * 2 ^ p = m * 10 ^ 1125) (hlast : en ≤ 35 ∨ R (en - 1) ≠ 0) :
    ∀ j0, ge R j0 ≠ 0 → (∀ i, i < j0 → ge R i = 0) → 9 * en ≤ j0 + 800 := by
  intro j0 h0 h1
  rcases hlast with h | h
  · omega
  by_cases h36 : en ≤ 35
  · omega
  have hval := ge_dv (R := R) 160 hR
  have e1 : dv 1000000000 R 160 = m * 5 ^ p * 10 ^ (1125 - p) := by
    have q : m * 10 ^ 1125 = m * 5 ^ p * 10 ^ (1125 - p) * 2 ^ p := by
      have q1 : 10 ^ 1125 = 10 ^ p * 10 ^ (1125 - p) := by rw [← Nat.pow_add]; congr 1; omega
      have q2 : (10 : Nat) ^ p = 5 ^ p * 2 ^ p := by rw [← Nat.mul_pow]
      rw [q1, q2]
      simp only [Nat.mul_assoc, Nat.mul_comm, Nat.mul_left_comm]
    rw [q] at hv
    exact Nat.eq_of_mul_eq_mul_right (Nat.pow_pos (by omega)) hv
  have hdvd : 10 ^ (1125 - p) ∣ dv 10 (ge R) 1440 := by
    rw [show (1440 : Nat) = 9 * 160 by omega, hval, e1]
    exact Nat.dvd_mul_left _ _
  have htail := dv_tail0 (d := ge R) (n := 1440) (t := 1125 - p) (fun i _ => by have := ge_lt R i; omega) (by omega) hdvd
  -- the last group has a digit that is not 0
  have hg := ge_grp (en - 1) (hR (en - 1))
  have hen1 : 9 * (en - 1) < 315 + p := by
    by_cases q : 9 * (en - 1) < 315 + p
    · exact q
    · exfalso
      apply h
      rw [← hg]
      apply dv_z
      intro k hk
      exact htail _ (by omega) (by omega)
  by_cases hj : j0 < 1440
  · have hlo := dv_first (b := 10) (d := ge R) (n := 1440) hj h1 h0
    rw [show (1440 : Nat) = 9 * 160 by omega, hval, e1] at hlo
    have h5 : m * 5 ^ p < 10 ^ 768 := by
      refine Nat.lt_of_le_of_lt (Nat.mul_le_mul (Nat.le_of_lt hm) (Nat.pow_le_pow_right (by omega) hp)) big_768
    have h6 : m * 5 ^ p * 10 ^ (1125 - p) < 10 ^ (768 + (1125 - p)) := by
      rw [Nat.pow_add]
      exact Nat.mul_lt_mul_of_pos_right h5 (Nat.pow_pos (by omega))
    have h7 : 9 * 160 - 1 - j0 < 768 + (1125 - p) := (Nat.pow_lt_pow_iff_right (by omega)).mp (Nat.lt_of_le_of_lt hlo h6)
    omega
  · omega
end
section
/-! rows of groups: what multiply and divide keep -/
def Gd (R : Nat → Nat) (fi en : Nat) : Prop := (∀ i, R i < 1000000000) ∧ (∀ i, i < fi → R i = 0) ∧ (∀ i, en ≤ i → i < 160 → R i = 0) ∧ en ≤ 160 ∧ fi ≤ 160
def LN (R : Nat → Nat) (en : Nat) : Prop := en ≤ 35 ∨ R (en - 1) ≠ 0
def MI (fr : Nat) (R0 R : Nat → Nat) (fi0 fi en t o z : Nat) : Prop := (∀ i, R i < 1000000000) ∧ (∀ i, i < t → R i = R0 i) ∧ (∀ i, en ≤ i → R i = R0 i) ∧ (∀ i, i < fi → R i = 0) ∧ fi ≤ fi0 ∧ t ≤ en ∧ o < z ∧ ts 1000000000 R t (160 - t) + o * 1000000000 ^ (160 - t) = ts 1000000000 R0 t (160 - t) * z ∧ (fr ≤ t ∨ (o = 0 ∧ R = R0 ∧ t = en))
theorem MI_0 {fr : Nat} {R : Nat → Nat} {fi en z : Nat} (h : Gd R fi en) (hz : 0 < z) : MI fr R R fi fi en en 0 z := by
  obtain ⟨h1, h2, h3, h4, h5⟩ := h
  refine ⟨h1, fun _ _ => rfl, fun _ _ => rfl, h2, Nat.le_refl _, Nat.le_refl _, hz, ?_, Or.inr ⟨rfl, rfl, rfl⟩⟩
  rw [ts_z (i := en) (n := 160 - en) (fun k hk hk2 => h3 k hk (by omega)), Nat.zero_mul, Nat.zero_mul]
theorem MI_s {fr : Nat} {R0 R : Nat → Nat} {fi0 fi en t o z : Nat} (h : MI fr R0 R fi0 fi en (t + 1) o z) (hen : en ≤ 160) (hfr : fr ≤ t) : MI fr R0 (un R t ((R t * z + o) % 1000000000)) fi0 (min fi t) en t ((R t * z + o) / 1000000000) z := by
  obtain ⟨h1, h2, h3, h4, h5, h6, h7, h8, h9⟩ := h
  have e0 : R t = R0 t := h2 t (by omega)
  have hRt := h1 t
  refine ⟨un_lt h1 (Nat.mod_lt _ (by omega)), fun i hi => ?_, fun i hi => ?_, fun i hi => ?_, by omega, by omega, ?_, ?_, Or.inl hfr⟩
  · rw [un_ne _ (by omega)]; exact h2 i (by omega)
  · rw [un_ne _ (by omega)]; exact h3 i hi
  · rw [un_ne _ (by omega)]; exact h4 i (by omega)
  · rw [Nat.div_lt_iff_lt_mul (by omega)]
    have q1 : R t * z ≤ 999999999 * z := Nat.mul_le_mul_right _ (by omega)
    omega
  · have e1 : 160 - t = (160 - (t + 1)) + 1 := by omega
    rw [e1]
    refine mul_step (x := R t * z + o) (by rw [e0]) (un_at _ _ _) rfl ?_
    rw [ts_cg (R := un R t _) (S := R) (fun k hk _ => un_ne _ (by omega))]
    exact h8
theorem MI_e {fr : Nat} {R0 R : Nat → Nat} {fi0 fi en t o z : Nat} (h : MI fr R0 R fi0 fi en t o z) (hG : Gd R0 fi0 en) (hfr : fr ≤ 160) (hx : t ≤ fr ∨ (t ≤ fi ∧ o = 0)) :
    ts 1000000000 R fr (160 - fr) + o * 1000000000 ^ (160 - fr) = ts 1000000000 R0 fr (160 - fr) * z ∧ (∀ j, j < fr → R j = R0 j) ∧ ∀ j, en ≤ j → j < 160 → R j = 0 := by
  obtain ⟨h1, h2, h3, h4, h5, h6, h7, h8, h9⟩ := h
  obtain ⟨g1, g2, g3, g4, g5⟩ := hG
  refine ⟨?_, fun j hj => ?_, fun j hj hj2 => by rw [h3 j hj]; exact g3 j hj hj2⟩
  · by_cases q : fr ≤ t
    · by_cases q2 : t = fr
      · rw [← q2]; exact h8
      · have q3 : t ≤ fi ∧ o = 0 := by omega
        rw [q3.2] at h8 ⊢
        rw [ts_lead q (by omega) (fun k _ hk => h4 k (by omega)), ts_lead q (by omega) (fun k _ hk => by rw [← h2 k hk]; exact h4 k (by omega))]
        rw [Nat.zero_mul, Nat.add_zero] at h8 ⊢
        exact h8
    · rcases h9 with h9 | ⟨rfl, rfl, rfl⟩
      · omega
      · rw [ts_z (i := fr) (n := 160 - fr), Nat.zero_mul, Nat.zero_mul]
        intro k hk hk2
        exact g3 k (by omega) (by omega)
  · by_cases q : j < t
    · exact h2 j q
    · rcases h9 with h9 | ⟨_, rfl, _⟩
      · omega
      · rfl
def LNi (R : Nat → Nat) (en i l : Nat) : Prop := en ≤ 35 ∨ (i < en ∧ R (en - 1) ≠ 0) ∨ (en ≤ i ∧ (l = 0 → R (en - 1) ≠ 0))
def DI (R0 R : Nat → Nat) (fi en0 en i l z : Nat) : Prop := (∀ j, R j < 1000000000) ∧ (∀ j, i ≤ j → R j = R0 j) ∧ (∀ j, j < fi → R j = 0) ∧ (∀ j, en ≤ j → j < 160 → R j = 0) ∧ en0 ≤ en ∧ en ≤ 160 ∧ l < z ∧ dv 1000000000 R i * z + l = dv 1000000000 R0 i ∧ fi ≤ i ∧ (LN R0 en0 → LNi R en i l)
theorem DI_0 {R : Nat → Nat} {fi en z : Nat} (h : Gd R fi en) (hz : 0 < z) : DI R R fi en en fi 0 z := by
  obtain ⟨h1, h2, h3, h4, h5⟩ := h
  refine ⟨h1, fun _ _ => rfl, h2, h3, Nat.le_refl _, h4, hz, ?_, Nat.le_refl _, fun h => ?_⟩
  · rw [dv_z h2, Nat.zero_mul]
  · rcases h with h | h
    · exact Or.inl h
    · by_cases q : fi < en
      · exact Or.inr (Or.inl ⟨q, h⟩)
      · exact Or.inr (Or.inr ⟨by omega, fun _ => h⟩)
theorem DI_s {R0 R : Nat → Nat} {fi en0 en i l z : Nat} (h : DI R0 R fi en0 en i l z) (hi : i < 160) (hc : i < en ∨ l ≠ 0) : DI R0 (un R i ((l * 1000000000 + R i) / z)) fi en0 (max en (i + 1)) (i + 1) ((l * 1000000000 + R i) % z) z := by
  obtain ⟨h1, h2, h3, h4, h5, h6, h7, h8, h9, h10⟩ := h
  have hz : 0 < z := by omega
  have hRi := h1 i
  have hx : (l * 1000000000 + R i) < 1000000000 * z := by
    have q : l * 1000000000 + 1000000000 ≤ z * 1000000000 := by
      rw [← Nat.succ_mul]; exact Nat.mul_le_mul_right _ h7
    rw [Nat.mul_comm 1000000000 z]; omega
  refine ⟨un_lt h1 ((Nat.div_lt_iff_lt_mul hz).mpr hx), fun j hj => ?_, fun j hj => ?_, fun j hj hj2 => ?_, by omega, by omega, Nat.mod_lt _ hz, ?_, by omega, fun hL => ?_⟩
  · rw [un_ne _ (by omega)]; exact h2 j (by omega)
  · rw [un_ne _ (by omega)]; exact h3 j hj
  · rw [un_ne _ (by omega)]; exact h4 j (by omega) hj2
  · refine div_step (l := l) (x := l * 1000000000 + R i) (by rw [h2 i (Nat.le_refl _)]) (un_at _ _ _) rfl ?_
    rw [dv_cg (d := un R i _) (e := R) (fun k hk => un_ne _ (by omega))]
    exact h8
  · have hq : 0 < l * 1000000000 + R i → (l * 1000000000 + R i) % z = 0 → (l * 1000000000 + R i) / z ≠ 0 := by
      intro a b c
      have := Nat.div_add_mod (l * 1000000000 + R i) z
      rw [b, c] at this
      omega
    have h11 := h10 hL
    unfold LNi at h11 ⊢
    by_cases q35 : max en (i + 1) ≤ 35
    · exact Or.inl q35
    · refine Or.inr ?_
      by_cases q : i + 1 < en
      · have e : max en (i + 1) = en := by omega
        rw [e]
        refine Or.inl ⟨q, ?_⟩
        rw [un_ne _ (by omega)]
        rcases h11 with h11 | h11 | h11
        · omega
        · exact h11.2
        · omega
      · have e : max en (i + 1) = i + 1 := by omega
        rw [e]
        refine Or.inr ⟨Nat.le_refl _, fun hl0 => ?_⟩
        rw [Nat.add_sub_cancel, un_at]
        apply hq _ hl0
        by_cases ql : l = 0
        · rcases h11 with h11 | h11 | h11
          · omega
          · have e2 : en - 1 = i := by omega
            rw [e2] at h11; omega
          · omega
        · omega
theorem DI_e {R0 R : Nat → Nat} {fi en0 en i l z lim : Nat} (h : DI R0 R fi en0 en i l z) (hlim : lim ≤ 160) (hi : i ≤ lim ∨ (i = fi ∧ l = 0)) (hx : lim ≤ i ∨ (en ≤ i ∧ l = 0)) : dv 1000000000 R lim * z + l = dv 1000000000 R0 lim := by
  obtain ⟨h1, h2, h3, h4, h5, h6, h7, h8, h9, h10⟩ := h
  by_cases q : i = lim
  · rw [← q]; exact h8
  · by_cases q1 : i < lim
    · have q2 : en ≤ i ∧ l = 0 := by omega
      have e1 : dv 1000000000 R lim = dv 1000000000 R i * 1000000000 ^ (lim - i) := dv_tail (by omega) (fun k hk hk2 => h4 k (by omega) (by omega))
      have e2 : dv 1000000000 R0 lim = dv 1000000000 R0 i * 1000000000 ^ (lim - i) := dv_tail (by omega) (fun k hk hk2 => by rw [← h2 k hk]; exact h4 k (by omega) (by omega))
      rw [e1, e2, ← h8, q2.2, Nat.add_zero, Nat.add_zero, Nat.mul_right_comm]
    · have q2 : i = fi ∧ l = 0 := by omega
      have e1 : dv 1000000000 R lim = 0 := dv_z (fun k hk => h3 k (by omega))
      have e2 : dv 1000000000 R0 lim = 0 := by
        have e3 : dv 1000000000 R0 i = 0 := by
          rw [← h8, q2.2, q2.1, dv_z h3, Nat.zero_mul]
        exact dv_z (fun k hk => dv_e0 (by omega) e3 k (by omega))
      rw [e1, e2, q2.2, Nat.zero_mul]
theorem DI_ln {R0 R : Nat → Nat} {fi en0 en i l z lim : Nat} (h : DI R0 R fi en0 en i l z) (hL : LN R0 en0) (hx : (lim ≤ i ∧ lim ≤ 35) ∨ l = 0) (hi : i ≤ lim ∨ i = fi) (hen : lim ≤ 35 → en ≤ 35 ∨ (en = en0 ∧ R (en - 1) = R0 (en - 1))) : LN R en := by
  rcases hx with hx | hx
  · rcases hen hx.2 with q | ⟨q1, q2⟩
    · exact Or.inl q
    · unfold LN; rw [q1]; rw [q1] at q2; rw [q2]; exact hL
  · rcases h.2.2.2.2.2.2.2.2.2 hL with q | q | q
    · exact Or.inl q
    · exact Or.inr q.2
    · exact Or.inr (q.2 hx)
end
section
/-! rows of single digits: doubled, halved -/
theorem lead_nz {d : Nat → Nat} {n : Nat} (hd : ∀ i, d i ≤ 9) (h0 : 0 < n) (h : 10 ^ (n - 1) ≤ dv 10 d n) : d 0 ≠ 0 := by
  intro q
  have e : n = 1 + (n - 1) := by omega
  have h1 : dv 10 d n = dv 10 d 1 * 10 ^ (n - 1) + dv 10 (fun i => d (1 + i)) (n - 1) := by rw [← dv_add, ← e]
  have h2 : dv 10 d 1 = 0 := by rw [dv_s, dv_0, q]
  have h3 : dv 10 (fun i => d (1 + i)) (n - 1) < 10 ^ (n - 1) := dv_lt (fun i _ => by have := hd (1 + i); show d (1 + i) < 10; omega)
  rw [h2] at h1
  omega
def TI (f0 f : Nat → Nat) (n t c : Nat) : Prop := (∀ i, f i ≤ 9) ∧ (∀ i, i < t → f i = f0 i) ∧ t ≤ n ∧ c < 2 ∧ ts 10 f t (n - t) + c * 10 ^ (n - t) = ts 10 f0 t (n - t) * 2
theorem TI_0 {f : Nat → Nat} {n : Nat} (h : ∀ i, f i ≤ 9) : TI f f n n 0 := by
  refine ⟨h, fun _ _ => rfl, Nat.le_refl _, by omega, ?_⟩
  rw [Nat.sub_self]; rfl
theorem TI_s {f0 f : Nat → Nat} {n t c : Nat} (h : TI f0 f n (t + 1) c) : TI f0 (un f t ((2 * f t + c) % 10)) n t ((2 * f t + c) / 10) := by
  obtain ⟨h1, h2, h3, h4, h5⟩ := h
  have e0 : f t = f0 t := h2 t (by omega)
  have hft := h1 t
  refine ⟨un_le h1 (by omega), fun i hi => ?_, by omega, by omega, ?_⟩
  · rw [un_ne _ (by omega)]; exact h2 i (by omega)
  · have e1 : n - t = (n - (t + 1)) + 1 := by omega
    rw [e1]
    refine mul_step (z := 2) (o := c) (x := 2 * f t + c) (by rw [e0]; omega) (un_at _ _ _) rfl ?_
    rw [ts_cg (R := un f t _) (S := f) (fun k hk _ => un_ne _ (by omega))]
    exact h5
theorem TI_e {f0 f : Nat → Nat} {n c : Nat} (h : TI f0 f n 0 c) : dv 10 f n + c * 10 ^ n = 2 * dv 10 f0 n := by
  have h5 := h.2.2.2.2
  unfold ts at h5
  simp only [Nat.zero_add, Nat.sub_zero] at h5
  rw [Nat.mul_comm 2]
  exact h5
def sh1 (f : Nat → Nat) (c : Nat) : Nat → Nat := fun i => if i = 0 then c else f (i - 1)
theorem dv_sh1 (f : Nat → Nat) (c n : Nat) : dv 10 (sh1 f c) (n + 1) = c * 10 ^ n + dv 10 f n := by
  rw [Nat.add_comm n 1, dv_add, dv_s, dv_0]
  have h1 : sh1 f c 0 = c := if_pos rfl
  have h2 : dv 10 (fun i => sh1 f c (1 + i)) n = dv 10 f n := dv_cg (fun i _ => by
    show sh1 f c (1 + i) = f i
    unfold sh1
    rw [if_neg (by omega)]
    congr 1; omega)
  rw [h1, h2, Nat.mul_zero, Nat.zero_add]
theorem dv_drop {f : Nat → Nat} {n : Nat} (h0 : 0 < n) (h : f 0 = 0) : dv 10 (fun i => f (i + 1)) (n - 1) = dv 10 f n := by
  have e : n = 1 + (n - 1) := by omega
  have h1 : dv 10 f n = dv 10 f 1 * 10 ^ (n - 1) + dv 10 (fun i => f (1 + i)) (n - 1) := by rw [← dv_add, ← e]
  rw [h1, dv_s, dv_0, h, Nat.mul_zero, Nat.add_zero, Nat.zero_mul, Nat.zero_add]
  exact dv_cg (fun i _ => by rw [Nat.add_comm])
/-- a row doubled -/
def Tw (f : Nat → Nat) (n : Nat) (g : Nat → Nat) (n' : Nat) : Prop := (∀ i, g i ≤ 9) ∧ n ≤ n' ∧ n' ≤ n + 1 ∧ dv 10 g n' = 2 * dv 10 f n ∧ (0 < n → f 0 ≠ 0 → g 0 ≠ 0)
theorem Tw_lead {f g : Nat → Nat} {n : Nat} (hg : ∀ i, g i ≤ 9) (hn : 0 < n) (h0 : f 0 ≠ 0) (h : dv 10 g n = 2 * dv 10 f n) : g 0 ≠ 0 := by
  refine lead_nz hg hn ?_
  have h1 := dv_le (b := 10) (d := f) hn (by omega)
  omega
theorem Tw_a {f0 f : Nat → Nat} {n : Nat} (h : TI f0 f n 0 0) : Tw f0 n f n := by
  have e := TI_e h
  rw [Nat.zero_mul, Nat.add_zero] at e
  exact ⟨h.1, Nat.le_refl _, by omega, e, fun hn h0 => Tw_lead h.1 hn h0 e⟩
theorem Tw_b {f0 f g : Nat → Nat} {n c : Nat} (h : TI f0 f n 0 c) (hc : 0 < c) (hg9 : ∀ i, g i ≤ 9) (hg : ∀ i, i < n + 1 → g i = sh1 f c i) : Tw f0 n g (n + 1) := by
  have e := TI_e h
  have hc2 := h.2.2.2.1
  refine ⟨hg9, by omega, by omega, ?_, fun _ _ => ?_⟩
  · rw [dv_cg hg, dv_sh1]; omega
  · rw [hg 0 (by omega)]
    have h1 : sh1 f c 0 = c := if_pos rfl
    omega
def HI (f0 f : Nat → Nat) (i l : Nat) : Prop := (∀ j, f j ≤ 9) ∧ (∀ j, i ≤ j → f j = f0 j) ∧ l < 2 ∧ dv 10 f i * 2 + l = dv 10 f0 i
theorem HI_0 {f : Nat → Nat} (h : ∀ i, f i ≤ 9) : HI f f 0 0 := ⟨h, fun _ _ => rfl, by omega, rfl⟩
theorem HI_s {f0 f : Nat → Nat} {i l : Nat} (h : HI f0 f i l) : HI f0 (un f i ((10 * l + f i) / 2)) (i + 1) ((10 * l + f i) % 2) := by
  obtain ⟨h1, h2, h3, h4⟩ := h
  have := h1 i
  refine ⟨un_le h1 (by omega), fun j hj => ?_, by omega, ?_⟩
  · rw [un_ne _ (by omega)]; exact h2 j (by omega)
  · refine div_step (l := l) (x := 10 * l + f i) (by rw [h2 i (Nat.le_refl _)]; omega) (un_at _ _ _) rfl ?_
    rw [dv_cg (d := un f i _) (e := f) (fun k hk => un_ne _ (by omega))]
    exact h4
/-- a row halved: x digits more behind the point -/
def Hf (f : Nat → Nat) (n : Nat) (g : Nat → Nat) (n' x : Nat) : Prop := (∀ i, g i ≤ 9) ∧ n' ≤ n + 1 ∧ x ≤ 1 ∧ n' ≤ n + x ∧ dv 10 g n' * 2 = dv 10 f n * 10 ^ x ∧ (0 < n → f 0 ≠ 0 → 0 < n' ∧ g 0 ≠ 0)
theorem Hf_a {f g : Nat → Nat} {n m x : Nat} (hg : ∀ i, g i ≤ 9) (hx : x ≤ 1) (hm : m = n + x) (h : dv 10 g m * 2 = dv 10 f n * 10 ^ x) (h0 : g 0 ≠ 0) (hmp : 0 < m) : Hf f n g m x :=
  ⟨hg, by omega, hx, by omega, h, fun _ _ => ⟨hmp, h0⟩⟩
theorem Hf_b {f g g' : Nat → Nat} {n m x : Nat} (hf : 0 < n → f 0 ≠ 0) (hg : ∀ i, g i ≤ 9) (hx : x ≤ 1) (hm : m = n + x) (h : dv 10 g m * 2 = dv 10 f n * 10 ^ x) (h0 : g 0 = 0) (hmp : 0 < m) (hg9 : ∀ i, g' i ≤ 9) (hg' : ∀ i, i < m - 1 → g' i = g (i + 1)) : Hf f n g' (m - 1) x := by
  have e : dv 10 g' (m - 1) = dv 10 g m := by rw [← dv_drop hmp h0]; exact dv_cg hg'
  refine ⟨hg9, by omega, hx, by omega, by rw [e]; exact h, fun hn h1 => ?_⟩
  have q1 := dv_le (b := 10) (d := f) hn (by omega)
  have q2 : 10 ^ (n - 1) * 10 ^ x ≤ dv 10 g' (m - 1) * 2 := by rw [e, h]; exact Nat.mul_le_mul_right _ q1
  rw [← Nat.pow_add] at q2
  have q3 : 0 < m - 1 := by
    by_cases z : m - 1 = 0
    · rw [z, dv_0, Nat.zero_mul] at q2
      have := Nat.pow_pos (n := n - 1 + x) (show 0 < 10 by omega)
      omega
    · omega
  refine ⟨q3, lead_nz hg9 q3 ?_⟩
  have e2 : n - 1 + x = (m - 1 - 1) + 1 := by omega
  rw [e2, Nat.pow_succ] at q2
  omega
/-- the row after the loop of half, with the 5 behind it where something is left -/
theorem Hf_5 {f0 f : Nat → Nat} {n : Nat} (h : HI f0 f n 1) : dv 10 (un f n 5) (n + 1) * 2 = dv 10 f0 n * 10 ^ 1 := by
  rw [dv_s, un_at, dv_cg (d := un f n 5) (e := f) (fun k hk => un_ne _ (by omega))]
  have := h.2.2.2
  omega
end
section
/-! the nearest double out of the leading bits -/
theorem near_cut {G U N F a b s q : Nat} {up : Bool} (hU : 0 < U) (hv : N * (U * 2 ^ a) + F = G * 2 ^ b) (hF : F < U * 2 ^ a) (hs : 0 < s) (hqs : q + b = s + 1074 + a) (hf : N / 2 ^ s < 9007199254740992) (hq : q = 0 ∨ 4503599627370496 ≤ N / 2 ^ s)
    (hup : up = true ↔ N / 2 ^ (s - 1) % 2 = 1 ∧ (N % 2 ^ (s - 1) ≠ 0 ∨ F ≠ 0 ∨ N / 2 ^ s % 2 = 1)) : Near (G * 2 ^ 1075) U (q * 4503599627370496 + N / 2 ^ s + (if up = true then 1 else 0)) := by
  obtain ⟨s, rfl⟩ : ∃ t, s = t + 1 := ⟨s - 1, by omega⟩
  rw [Nat.add_sub_cancel] at hup
  have e1 : N / 2 ^ (s + 1) = N / 2 ^ s / 2 := by rw [Nat.pow_succ, Nat.div_div_eq_div_mul]
  have hP : 0 < 2 ^ s := Nat.pow_pos (by omega)
  have hB : 0 < 2 ^ b := Nat.pow_pos (by omega)
  have hA : 0 < U * 2 ^ a := Nat.mul_pos hU (Nat.pow_pos (by omega))
  have hpow : 2 ^ q * 2 ^ b = 2 ^ s * 2 ^ a * 2 ^ 1075 := by
    rw [← Nat.pow_add, ← Nat.pow_add, ← Nat.pow_add]; congr 1; omega
  have hN : 2 ^ s * (N / 2 ^ s) + N % 2 ^ s = N := Nat.div_add_mod N (2 ^ s)
  have hr : N % 2 ^ s < 2 ^ s := Nat.mod_lt _ hP
  rw [e1] at hup hf hq ⊢
  generalize hx : N / 2 ^ s = x at *
  generalize hy : N % 2 ^ s = y at *
  generalize hu : U * 2 ^ a = u at *
  have kX : G * 2 ^ 1075 * 2 ^ b = (N * u + F) * 2 ^ 1075 := by rw [hv, Nat.mul_right_comm]
  have kc : ∀ c, c * 2 ^ q * U * 2 ^ b = c * 2 ^ s * u * 2 ^ 1075 := by
    intro c
    calc c * 2 ^ q * U * 2 ^ b = c * U * (2 ^ q * 2 ^ b) := by simp only [Nat.mul_assoc, Nat.mul_comm, Nat.mul_left_comm]
      _ = c * U * (2 ^ s * 2 ^ a * 2 ^ 1075) := by rw [hpow]
      _ = c * 2 ^ s * (U * 2 ^ a) * 2 ^ 1075 := by simp only [Nat.mul_assoc, Nat.mul_comm, Nat.mul_left_comm]
      _ = _ := by rw [hu]
  have hW : 0 < 2 ^ 1075 := Nat.pow_pos (by omega)
  have lt1 : ∀ c, c * 2 ^ s * u < N * u + F → c * 2 ^ q * U < G * 2 ^ 1075 := fun c h => Nat.lt_of_mul_lt_mul_right (a := 2 ^ b) (by rw [kX, kc]; exact Nat.mul_lt_mul_of_pos_right h hW)
  have lt2 : ∀ c, N * u + F < c * 2 ^ s * u → G * 2 ^ 1075 < c * 2 ^ q * U := fun c h => Nat.lt_of_mul_lt_mul_right (a := 2 ^ b) (by rw [kX, kc]; exact Nat.mul_lt_mul_of_pos_right h hW)
  have eq1 : ∀ c, N * u + F = c * 2 ^ s * u → G * 2 ^ 1075 = c * 2 ^ q * U := fun c h => Nat.eq_of_mul_eq_mul_right hB (by rw [kX, kc, h])
  -- N against c * P
  have up1 : N * u + F < (x + 1) * 2 ^ s * u := by
    have h1 : N + 1 ≤ (x + 1) * 2 ^ s := by
      rw [Nat.add_mul, Nat.one_mul, Nat.mul_comm x]; omega
    have h2 := Nat.mul_le_mul_right u h1
    rw [Nat.add_mul, Nat.one_mul] at h2
    omega
  have lo1 : x * 2 ^ s * u ≤ N * u + F := by
    have h1 : x * 2 ^ s ≤ N := by rw [Nat.mul_comm x]; omega
    have h2 := Nat.mul_le_mul_right u h1
    omega
  have lo2 : (y ≠ 0 ∨ F ≠ 0) → x * 2 ^ s * u < N * u + F := by
    intro h
    by_cases hy0 : y = 0
    · have h1 : x * 2 ^ s ≤ N := by rw [Nat.mul_comm x]; omega
      have h2 := Nat.mul_le_mul_right u h1
      omega
    · have h1 : x * 2 ^ s + 1 ≤ N := by rw [Nat.mul_comm x]; omega
      have h2 := Nat.mul_le_mul_right u h1
      rw [Nat.add_mul, Nat.one_mul] at h2
      omega
  have eq2 : y = 0 → F = 0 → N * u + F = x * 2 ^ s * u := by
    intro h1 h2
    have h3 : x * 2 ^ s = N := by rw [Nat.mul_comm x]; omega
    rw [h3, h2]; rfl
  cases up with
  | false =>
    have hup' : ¬ (x % 2 = 1 ∧ (y ≠ 0 ∨ F ≠ 0 ∨ x / 2 % 2 = 1)) := fun h => by have := hup.mpr h; cases this
    rw [if_neg (by decide), Nat.add_zero]
    by_cases h2 : x % 2 = 1
    · have ex : x = 2 * (x / 2) + 1 := by omega
      refine near_dn hf hq hU ?_ (Or.inr ⟨?_, ?_⟩)
      · refine Nat.le_of_lt (lt1 _ ?_)
        have h3 : 2 * (x / 2) + 1 ≤ x := by omega
        have h4 := Nat.mul_le_mul_right u (Nat.mul_le_mul_right (2 ^ s) h3)
        have h5 : 2 * (x / 2) * 2 ^ s * u < (2 * (x / 2) + 1) * 2 ^ s * u := by
          refine Nat.mul_lt_mul_of_pos_right (Nat.mul_lt_mul_of_pos_right (by omega) hP) hA
        omega
      · rw [← ex]; exact eq1 _ (eq2 (by omega) (by omega))
      · omega
    · have ex : x = 2 * (x / 2) := by omega
      refine near_dn hf hq hU ?_ (Or.inl ?_)
      · rw [← ex]
        by_cases h3 : y ≠ 0 ∨ F ≠ 0
        · exact Nat.le_of_lt (lt1 _ (lo2 h3))
        · exact Nat.le_of_eq (eq1 _ (eq2 (by omega) (by omega))).symm
      · have ex2 : 2 * (x / 2) + 1 = x + 1 := by omega
        rw [ex2]; exact lt2 _ up1
  | true =>
    have hup' := hup.mp rfl
    rw [if_pos rfl]
    have ex : x = 2 * (x / 2) + 1 := by omega
    refine near_up hf hq hU ?_ ?_
    · have ex2 : 2 * (x / 2 + 1) = x + 1 := by omega
      rw [ex2]; exact lt2 _ up1
    · rw [← ex]
      by_cases h3 : y ≠ 0 ∨ F ≠ 0
      · exact Or.inl (lt1 _ (lo2 h3))
      · exact Or.inr ⟨eq1 _ (eq2 (by omega) (by omega)), by omega⟩
/-- below half of the least double -/
theorem near_0 {G U : Nat} (h : G * 2 ^ 1075 < U) : Near (G * 2 ^ 1075) U 0 := by
  have e : md 0 = 1 := by decide
  refine ⟨Or.inl ?_, Or.inl rfl⟩
  rw [e, Nat.one_mul]; exact h
end
section
/-! the reference's rows: how long, and what they are worth -/
def Nd (v k : Nat) : Prop := v < 10 ^ k ∧ (k = 0 ∨ 10 ^ (k - 1) ≤ v)
theorem Nd_0 : Nd 0 0 := ⟨by decide, Or.inl rfl⟩
theorem Nd_s {v k : Nat} (hv : 0 < v) (h : Nd (v / 10) k) : Nd v (k + 1) := by
  obtain ⟨h1, h2⟩ := h
  refine ⟨?_, Or.inr ?_⟩
  · rw [Nat.pow_succ]; omega
  · rw [Nat.add_sub_cancel]
    rcases h2 with h2 | h2
    · rw [h2]; omega
    · by_cases q : k = 0
      · rw [q]; omega
      · have e : k = (k - 1) + 1 := by omega
        rw [e, Nat.pow_succ]; omega
theorem Nd_le {v k c : Nat} (h : Nd v k) (hv : v < 10 ^ c) : k ≤ c := by
  rcases h.2 with h2 | h2
  · omega
  · have h3 : 10 ^ (k - 1) < 10 ^ c := Nat.lt_of_le_of_lt h2 hv
    have h4 := (Nat.pow_lt_pow_iff_right (show 1 < 10 by omega)).mp h3
    omega
/-- the digits of v, written from the end: those from k on are there -/
def Fi (v n k : Nat) (f : Nat → Nat) : Prop := (∀ i, f i ≤ 9) ∧ ∀ i, k ≤ i → i < n → f i = v / 10 ^ (n - 1 - i) % 10
theorem Fi_0 {v n : Nat} {f : Nat → Nat} (h : ∀ i, f i ≤ 9) : Fi v n n f := ⟨h, fun i h1 h2 => by omega⟩
theorem Fi_s {v n k : Nat} {f : Nat → Nat} (h : Fi v n (k + 1) f) (hk : k < n) : Fi v n k (un f k (v / 10 ^ (n - (k + 1)) % 10)) := by
  refine ⟨un_le h.1 (by omega), fun i h1 h2 => ?_⟩
  by_cases e : i = k
  · rw [e, un_at]; congr 3; omega
  · rw [un_ne _ e]; exact h.2 i (by omega) h2
theorem Fi_v {v n : Nat} {f : Nat → Nat} (h : Fi v n 0 f) (hv : v < 10 ^ n) : dv 10 f n = v := by
  have h1 := dg_all hv n (Nat.le_refl _)
  rw [Nat.sub_self, Nat.pow_zero, Nat.div_one] at h1
  rw [← h1]
  exact dv_cg (fun i hi => h.2 i (by omega) hi)
theorem Fi_lead {v n : Nat} {f : Nat → Nat} (h : Fi v n 0 f) (hv : Nd v n) (h0 : 0 < n) : f 0 ≠ 0 := by
  refine lead_nz h.1 h0 ?_
  rw [Fi_v h hv.1]
  rcases hv.2 with h2 | h2
  · omega
  · exact h2
/-- a row with fr digits behind the point is v * 2 ** e, in units of 2 ** -1076 -/
def Rw (f : Nat → Nat) (n fr v e : Nat) : Prop := (∀ i, f i ≤ 9) ∧ 0 < n ∧ f 0 ≠ 0 ∧ dv 10 f n * 2 ^ 1076 = v * 2 ^ e * 10 ^ fr
theorem Rw_tw {f g : Nat → Nat} {n n' fr v e : Nat} (h : Rw f n fr v e) (ht : Tw f n g n') : Rw g n' fr v (e + 1) := by
  obtain ⟨h1, h2, h3, h4⟩ := h
  obtain ⟨t1, t2, t3, t4, t5⟩ := ht
  refine ⟨t1, by omega, t5 h2 h3, ?_⟩
  rw [t4, Nat.mul_assoc, h4, Nat.pow_succ]
  simp only [Nat.mul_assoc, Nat.mul_comm, Nat.mul_left_comm]
theorem Rw_hf {f g : Nat → Nat} {n n' x fr v e : Nat} (h : Rw f n fr v (e + 1)) (ht : Hf f n g n' x) : Rw g n' (fr + x) v e := by
  obtain ⟨h1, h2, h3, h4⟩ := h
  obtain ⟨t1, t2, t3, t4, t5, t6⟩ := ht
  refine ⟨t1, (t6 h2 h3).1, (t6 h2 h3).2, ?_⟩
  have q : dv 10 g n' * 2 ^ 1076 * 2 = v * 2 ^ e * 10 ^ (fr + x) * 2 := by
    calc dv 10 g n' * 2 ^ 1076 * 2 = dv 10 g n' * 2 * 2 ^ 1076 := Nat.mul_right_comm _ _ _
      _ = dv 10 f n * 10 ^ x * 2 ^ 1076 := by rw [t5]
      _ = dv 10 f n * 2 ^ 1076 * 10 ^ x := Nat.mul_right_comm _ _ _
      _ = v * 2 ^ (e + 1) * 10 ^ fr * 10 ^ x := by rw [h4]
      _ = _ := by rw [Nat.pow_succ, Nat.pow_add]; simp only [Nat.mul_assoc, Nat.mul_comm, Nat.mul_left_comm]
  exact Nat.eq_of_mul_eq_mul_right (by omega) q
theorem Rw_dz {f : Nat → Nat} {n fr v e : Nat} (h : Rw f n fr v e) : 0 < dz f n ∧ f (dz f n - 1) ≠ 0 ∧ dv 10 f n = dv 10 f (dz f n) * 10 ^ (n - dz f n) := by
  have hp : 0 < dz f n := by
    by_cases q : dz f n = 0
    · exact absurd (dz_rest f n 0 (by omega) h.2.1) h.2.2.1
    · omega
  exact ⟨hp, dz_last f n hp, dv_tail (dz_le f n) (fun k h1 h2 => dz_rest f n k h1 h2)⟩
theorem Rw_sv {f : Nat → Nat} {n fr v e : Nat} {pl : Int} (h : Rw f n fr v e) (hpl : pl = (n : Int) - fr) (hfr : fr ≤ 1125) : Nrm f (dz f n) ∧ ((dz f n : Nat) : Int) ≤ pl + 1125 ∧ sv 1125 f (dz f n) pl * 2 ^ 1076 = v * 2 ^ e * 10 ^ 1125 := by
  obtain ⟨a, b, c⟩ := Rw_dz h
  have hd := dz_le f n
  refine ⟨⟨fun i _ => by have := h.1 i; omega, fun _ => ⟨by have := h.2.2.1; omega, by omega⟩⟩, by omega, ?_⟩
  unfold sv
  have e1 : (pl - ((dz f n : Nat) : Int) + 1125).toNat = (n - dz f n) + (1125 - fr) := by omega
  rw [show (pl - ((dz f n : Nat) : Int) + (1125 : Nat)).toNat = (n - dz f n) + (1125 - fr) from e1]
  rw [Nat.pow_add, ← Nat.mul_assoc, ← c, Nat.mul_right_comm, h.2.2.2, Nat.mul_assoc, ← Nat.pow_add]
  congr 2; omega
end
section
/-! words of 32 bits: what Words.load keeps -/
theorem B_125 : (1000000000 : Nat) ^ 125 = 10 ^ 1125 := by decide +kernel
/-- the number before the point goes over into words, from the last -/
def WA (R0 R W : Nat → Nat) (i : Nat) : Prop := dv 1000000000 R0 35 = dv 1000000000 R 35 * 4294967296 ^ (33 - i) + ts 4294967296 W i (33 - i)
theorem WA_0 (R W : Nat → Nat) : WA R R W 33 := by
  unfold WA ts
  rw [Nat.sub_self, Nat.pow_zero, Nat.mul_one, dv_0, Nat.add_zero]
theorem WA_s {R0 R R' W : Nat → Nat} {i o : Nat} (hi : i < 33) (h : WA R0 R W (i + 1)) (hd : dv 1000000000 R' 35 * 4294967296 + o = dv 1000000000 R 35) : WA R0 R' (un W i o) i := by
  unfold WA at h ⊢
  have e : 33 - i = (33 - (i + 1)) + 1 := by omega
  rw [e, ts_hd, un_at, ts_cg (R := un W i o) (S := W) (fun k hk _ => un_ne _ (by omega)), h, ← hd, Nat.pow_succ, Nat.add_mul]
  rw [Nat.add_assoc, Nat.mul_assoc, Nat.mul_comm (4294967296 : Nat)]
theorem WA_e {R0 R W : Nat → Nat} (h : WA R0 R W 0) (hb : dv 1000000000 R0 35 < 4294967296 ^ 33) : dv 1000000000 R 35 = 0 ∧ dv 4294967296 W 33 = dv 1000000000 R0 35 := by
  unfold WA ts at h
  simp only [Nat.zero_add, Nat.sub_zero] at h
  have h0 : dv 1000000000 R 35 = 0 := by
    by_cases q : dv 1000000000 R 35 = 0
    · exact q
    · have : 1 * 4294967296 ^ 33 ≤ dv 1000000000 R 35 * 4294967296 ^ 33 := Nat.mul_le_mul_right _ (by omega)
      omega
  rw [h0, Nat.zero_mul, Nat.zero_add] at h
  exact ⟨h0, h.symm⟩
def Tp (W : Nat → Nat) (i top : Nat) : Prop := top ≤ i ∧ (∀ j, j < top → W j = 0) ∧ (top < i → W top ≠ 0)
/-- and what stands behind the point, word by word -/
def WB (G : Nat) (R W : Nat → Nat) (i : Nat) : Prop := dv 4294967296 W i * 10 ^ 1125 + ts 1000000000 R 35 125 = G * 4294967296 ^ (i - 33)
theorem WB_0 {R0 R W : Nat → Nat} {G : Nat} (hG : G = dv 1000000000 R0 160) (h : dv 4294967296 W 33 = dv 1000000000 R0 35) (hR : ∀ j, 35 ≤ j → R j = R0 j) : WB G R W 33 := by
  unfold WB
  rw [Nat.sub_self, Nat.pow_zero, Nat.mul_one, hG, h, ← B_125, ts_cg (R := R) (S := R0) (fun k hk _ => hR k hk)]
  exact (dv_ts 1000000000 R0 35 125).symm
theorem WB_s {R R' W : Nat → Nat} {G i o : Nat} (hi : 33 ≤ i) (h : WB G R W i) (hd : ts 1000000000 R' 35 125 + o * 1000000000 ^ 125 = ts 1000000000 R 35 125 * 4294967296) : WB G R' (un W i o) (i + 1) := by
  unfold WB at h ⊢
  rw [dv_s, un_at, dv_cg (d := un W i o) (e := W) (fun k hk => un_ne _ (by omega))]
  have e : i + 1 - 33 = (i - 33) + 1 := by omega
  have hp : (4294967296 : Nat) ^ (i - 33 + 1) = 4294967296 ^ (i - 33) * 4294967296 := Nat.pow_succ _ _
  rw [e, hp, ← Nat.mul_assoc, ← h]
  rw [B_125] at hd
  generalize dv 4294967296 W i = x at *
  generalize ts 1000000000 R' 35 125 = y at *
  generalize ts 1000000000 R 35 125 = t at *
  generalize 10 ^ 1125 = z at *
  rw [Nat.add_mul (x * z) t, ← hd]
  grind
theorem WB_F {R : Nat → Nat} (hR : ∀ i, R i < 1000000000) : ts 1000000000 R 35 125 < 10 ^ 1125 := by
  rw [← B_125]; exact ts_lt (fun k _ _ => hR k)
theorem WB_more {R : Nat → Nat} {fi en : Nat} (hG : Gd R fi en) (hL : LN R en) : 35 < en ↔ ts 1000000000 R 35 125 ≠ 0 := by
  constructor
  · intro h h0
    rcases hL with q | q
    · omega
    · exact q (ts_e0 (by omega) h0 (en - 1) (by omega) (by have := hG.2.2.2.1; omega))
  · intro h
    by_cases q : 35 < en
    · exact q
    · exact absurd (ts_z (fun k h1 h2 => hG.2.2.1 k (by omega) (by omega))) h
/-- what load leaves -/
def Wl (G : Nat) (W : Nat → Nat) (more : Bool) (T top F : Nat) : Prop := (∀ i, W i < 4294967296) ∧ (∀ j, T ≤ j → j < 70 → W j = 0) ∧ 33 ≤ T ∧ T ≤ 67 ∧ F < 10 ^ 1125 ∧ dv 4294967296 W T * 10 ^ 1125 + F = G * 4294967296 ^ (T - 33) ∧ (more = true ↔ F ≠ 0) ∧ Tp W T top ∧ (T = 67 ∨ top + 3 ≤ T)
end
section
/-! the head of 64 bits and the number that it is the head of -/
/-- head stands for N behind a cut of s bits, b bits of it kept -/
def Hh (N head s b : Nat) (low : Prop) : Prop := N / 2 ^ s = head / 2 ^ (64 - b) ∧ N / 2 ^ (s - 1) % 2 = head / 2 ^ (63 - b) % 2 ∧ (N % 2 ^ (s - 1) ≠ 0 ↔ head % 2 ^ (63 - b) ≠ 0 ∨ low)
theorem mod_split (N a b : Nat) : N % 2 ^ (a + b) ≠ 0 ↔ N / 2 ^ a % 2 ^ b ≠ 0 ∨ N % 2 ^ a ≠ 0 := by
  have e : N % (2 ^ a * 2 ^ b) = N % 2 ^ a + 2 ^ a * (N / 2 ^ a % 2 ^ b) := Nat.mod_mul
  rw [Nat.pow_add, e]
  have hp : 0 < 2 ^ a := Nat.pow_pos (by omega)
  constructor
  · intro h1
    by_cases q : N / 2 ^ a % 2 ^ b = 0
    · rw [q, Nat.mul_zero, Nat.add_zero] at h1; exact Or.inr h1
    · exact Or.inl q
  · intro h1 h2
    rcases h1 with h1 | h1
    · have : 1 * 1 ≤ 2 ^ a * (N / 2 ^ a % 2 ^ b) := Nat.mul_le_mul hp (by omega)
      omega
    · omega
theorem Hh_a {N head u b : Nat} (hb : b ≤ 63) (h : head = N / 2 ^ u) : Hh N head (u + (64 - b)) b (N % 2 ^ u ≠ 0) := by
  subst h
  have e1 : u + (64 - b) - 1 = u + (63 - b) := by omega
  refine ⟨?_, ?_, ?_⟩
  · rw [Nat.pow_add, Nat.div_div_eq_div_mul]
  · rw [e1, Nat.pow_add, Nat.div_div_eq_div_mul]
  · rw [e1]; exact mod_split N u (63 - b)
theorem Hh_b {N head u s b : Nat} (hs : 0 < s) (hb : s + u = 64 - b) (h : head = N * 2 ^ u) : Hh N head s b False := by
  subst h
  have hp : 0 < 2 ^ u := Nat.pow_pos (by omega)
  have e1 : 63 - b = (s - 1) + u := by omega
  refine ⟨?_, ?_, ?_⟩
  · rw [← hb, Nat.pow_add, Nat.mul_div_mul_right _ _ hp]
  · rw [e1, Nat.pow_add, Nat.mul_div_mul_right _ _ hp]
  · rw [e1, Nat.pow_add, Nat.mul_mod_mul_right]
    constructor
    · intro h; exact Or.inl (by
        have : 1 * 1 ≤ N % 2 ^ (s - 1) * 2 ^ u := Nat.mul_le_mul (by omega) hp
        omega)
    · intro h
      rcases h with h | h
      · intro q; rw [q, Nat.zero_mul] at h; exact h rfl
      · exact h.elim
/-- three words and the head out of them -/
theorem head_3 {w0 w1 w2 sh : Nat} (hsh : sh ≤ 31) (h2 : w2 < 4294967296) : (w0 * 18446744073709551616 + w1 * 4294967296 + w2) / 2 ^ (32 - sh) = w0 * 2 ^ (32 + sh) + w1 * 2 ^ sh + w2 * 2 ^ sh / 4294967296 := by
  have e0 : (4294967296 : Nat) = 2 ^ (32 - sh) * 2 ^ sh := by rw [← Nat.pow_add, show 32 - sh + sh = 32 by omega]
  have e1 : (18446744073709551616 : Nat) = 2 ^ (32 - sh) * 2 ^ (32 + sh) := by rw [← Nat.pow_add, show 32 - sh + (32 + sh) = 64 by omega]
  have hp : 0 < 2 ^ sh := Nat.pow_pos (by omega)
  have hq : 0 < 2 ^ (32 - sh) := Nat.pow_pos (by omega)
  have e2 : w2 * 2 ^ sh / 4294967296 = w2 / 2 ^ (32 - sh) := by rw [e0, Nat.mul_div_mul_right _ _ hp]
  rw [e2, e1, e0]
  generalize 2 ^ (32 - sh) = x at *
  generalize 2 ^ sh = y at *
  generalize 2 ^ (32 + sh) = z at *
  have e3 : w0 * (x * z) + w1 * (x * y) + w2 = w2 + x * (w0 * z + w1 * y) := by grind
  rw [e3, Nat.add_mul_div_left _ _ hq]
  omega
theorem low_3 {w0 w1 w2 sh : Nat} (hsh : sh ≤ 31) : (w0 * 18446744073709551616 + w1 * 4294967296 + w2) % 2 ^ (32 - sh) ≠ 0 ↔ w2 * 2 ^ sh % 4294967296 ≠ 0 := by
  have e0 : (4294967296 : Nat) = 2 ^ (32 - sh) * 2 ^ sh := by rw [← Nat.pow_add, show 32 - sh + sh = 32 by omega]
  have e1 : (18446744073709551616 : Nat) = 2 ^ (32 - sh) * 2 ^ (32 + sh) := by rw [← Nat.pow_add, show 32 - sh + (32 + sh) = 64 by omega]
  have hp : 0 < 2 ^ sh := Nat.pow_pos (by omega)
  have e4 : w2 * 2 ^ sh % 4294967296 = w2 % 2 ^ (32 - sh) * 2 ^ sh := by rw [e0, Nat.mul_mod_mul_right]
  have e5 : (w0 * 18446744073709551616 + w1 * 4294967296 + w2) % 2 ^ (32 - sh) = w2 % 2 ^ (32 - sh) := by
    rw [e1, e0]
    generalize 2 ^ (32 - sh) = x at *
    generalize 2 ^ sh = y at *
    generalize 2 ^ (32 + sh) = z at *
    have e3 : w0 * (x * z) + w1 * (x * y) + w2 = w2 + x * (w0 * z + w1 * y) := by grind
    rw [e3, Nat.add_mul_mod_self_left]
  rw [e4, e5]
  constructor
  · intro h q
    have : 1 * 1 ≤ w2 % 2 ^ (32 - sh) * 2 ^ sh := Nat.mul_le_mul (by omega) hp
    omega
  · intro h q; rw [q, Nat.zero_mul] at h; exact h rfl
theorem p32 (c : Nat) : (4294967296 : Nat) ^ c = 2 ^ (32 * c) := by rw [Nat.pow_mul]
/-- the first three words that count, among all -/
theorem dv_top3 {W : Nat → Nat} {top : Nat} (h0 : ∀ j, j < top → W j = 0) : dv 4294967296 W (top + 3) = W top * 18446744073709551616 + W (top + 1) * 4294967296 + W (top + 2) := by
  rw [show top + 3 = ((top + 1) + 1) + 1 by omega, dv_s, dv_s, dv_s, dv_z h0]
  omega
theorem Hh_w {W : Nat → Nat} {T top sh b s head : Nat} (hb : b ≤ 63) (hsh : sh ≤ 31) (h2 : W (top + 2) < 4294967296) (hW : ∀ j, W j < 4294967296) (h0 : ∀ j, j < top → W j = 0) (hT : top + 3 ≤ T) (hh : head = W top * 2 ^ (32 + sh) + W (top + 1) * 2 ^ sh + W (top + 2) * 2 ^ sh / 4294967296) (hs : s + sh = 32 * (T - top - 2) + (64 - b)) :
    Hh (dv 4294967296 W T) head s b (W (top + 2) * 2 ^ sh % 4294967296 ≠ 0 ∨ ts 4294967296 W (top + 3) (T - (top + 3)) ≠ 0) := by
  obtain ⟨c, rfl⟩ : ∃ c, T = top + 3 + c := ⟨T - (top + 3), by omega⟩
  have e0 : top + 3 + c - (top + 3) = c := by omega
  rw [e0]
  have hlow : ts 4294967296 W (top + 3) c < 2 ^ (32 * c) := by rw [← p32]; exact ts_lt (fun k _ _ => hW k)
  have hd := dv_ts 4294967296 W (top + 3) c
  rw [dv_top3 h0, p32] at hd
  have hp : 0 < 2 ^ (32 * c) := Nat.pow_pos (by omega)
  have e1 : dv 4294967296 W (top + 3 + c) / 2 ^ (32 * c) = W top * 18446744073709551616 + W (top + 1) * 4294967296 + W (top + 2) := by
    rw [hd, Nat.mul_comm, Nat.mul_add_div hp, Nat.div_eq_of_lt hlow, Nat.add_zero]
  have e2 : dv 4294967296 W (top + 3 + c) % 2 ^ (32 * c) = ts 4294967296 W (top + 3) c := by
    rw [hd, Nat.mul_comm, Nat.mul_add_mod, Nat.mod_eq_of_lt hlow]
  have hhead : head = dv 4294967296 W (top + 3 + c) / 2 ^ (32 * c + (32 - sh)) := by
    rw [Nat.pow_add, ← Nat.div_div_eq_div_mul, e1, head_3 hsh h2, hh]
  have hs2 : s = (32 * c + (32 - sh)) + (64 - b) := by omega
  have h := Hh_a (b := b) hb hhead
  rw [← hs2] at h
  refine ⟨h.1, h.2.1, h.2.2.trans ?_⟩
  have h3 := mod_split (dv 4294967296 W (top + 3 + c)) (32 * c) (32 - sh)
  rw [e1, e2, low_3 hsh] at h3
  rw [h3]
theorem Hh_v {W : Nat → Nat} {T top sh b s head : Nat} (hs0 : 0 < s) (hsh : sh ≤ 31) (h2 : W (top + 2) = 0) (h0 : ∀ j, j < top → W j = 0) (hT : T < top + 3) (hz : ∀ j, T ≤ j → j < top + 3 → W j = 0) (hh : head = W top * 2 ^ (32 + sh) + W (top + 1) * 2 ^ sh + W (top + 2) * 2 ^ sh / 4294967296) (hs : s + sh + 32 * (top + 2 - T) = 64 - b) (hT2 : T ≤ top + 2) :
    Hh (dv 4294967296 W T) head s b False := by
  have hd : dv 4294967296 W (top + 3) = dv 4294967296 W T * 4294967296 ^ (top + 3 - T) := dv_tail (by omega) (fun k h1 h2 => hz k h1 h2)
  rw [dv_top3 h0, h2, Nat.add_zero, p32] at hd
  rw [h2, Nat.zero_mul, Nat.zero_div, Nat.add_zero] at hh
  have e1 : head * 4294967296 = dv 4294967296 W T * 2 ^ (sh + 32 * (top + 2 - T)) * 4294967296 := by
    have q1 : head * 4294967296 = (W top * 18446744073709551616 + W (top + 1) * 4294967296) * 2 ^ sh := by
      rw [hh, Nat.pow_add]
      generalize 2 ^ sh = y
      have : (2 : Nat) ^ 32 = 4294967296 := by decide
      rw [this]
      grind
    rw [q1, hd, Nat.mul_assoc, ← Nat.pow_add, Nat.mul_assoc]
    congr 1
    have : (4294967296 : Nat) = 2 ^ 32 := by decide
    rw [this, ← Nat.pow_add]
    congr 1; omega
  exact Hh_b hs0 (u := sh + 32 * (top + 2 - T)) (by omega) (Nat.eq_of_mul_eq_mul_right (by omega) e1)
end
section
/-! a decimal's digits put into groups -/
theorem dv_un {b : Nat} {e : Nat → Nat} {n r d : Nat} (hr : r < n) (h0 : e r = 0) : dv b (un e r d) n = dv b e n + d * b ^ (n - 1 - r) := by
  induction n with
  | zero => omega
  | succ n ih =>
    rw [dv_s, dv_s]
    by_cases q : r = n
    · subst q
      rw [un_at, h0, dv_cg (d := un e r d) (e := e) (fun k hk => un_ne _ (by omega))]
      rw [show r + 1 - 1 - r = 0 by omega, Nat.pow_zero]
      omega
    · rw [ih (by omega), un_ne _ (fun h => q h.symm)]
      have e1 : n + 1 - 1 - r = (n - 1 - r) + 1 := by omega
      rw [e1, Nat.pow_succ, Nat.mul_add]
      generalize b ^ (n - 1 - r) = x
      generalize dv b e n = y
      generalize e n = z
      grind
theorem dv_grp (e : Nat → Nat) (n : Nat) : dv 1000000000 (fun k => dv 10 (fun q => e (9 * k + q)) 9) n = dv 10 e (9 * n) := by
  induction n with
  | zero => rfl
  | succ n ih =>
    have h1 : dv 10 e (9 * n + 9) = dv 10 e (9 * n) * 10 ^ 9 + dv 10 (fun q => e (9 * n + q)) 9 := dv_add 10 e (9 * n) 9
    rw [show 9 * (n + 1) = 9 * n + 9 by omega, h1, ← ih, dv_s, Nat.mul_comm]
/-- the places of the first i digits -/
def ei (f : Nat → Nat) (st i : Nat) : Nat → Nat := fun j => if st ≤ j ∧ j < st + i then f (j - st) else 0
theorem ei_9 {f : Nat → Nat} (h : ∀ i, f i ≤ 9) (st i j : Nat) : ei f st i j ≤ 9 := by
  unfold ei; split
  · exact h _
  · omega
theorem ei_s (f : Nat → Nat) (st i : Nat) : ei f st (i + 1) = un (ei f st i) (st + i) (f i) := by
  funext j
  unfold ei un
  by_cases q : j = st + i
  · rw [if_pos q, if_pos (by omega)]; congr 1; omega
  · rw [if_neg q]
    by_cases q2 : st ≤ j ∧ j < st + i
    · show _ = (if st ≤ j ∧ j < st + i then f (j - st) else 0)
      rw [if_pos q2, if_pos (by omega)]
    · show _ = (if st ≤ j ∧ j < st + i then f (j - st) else 0)
      rw [if_neg q2, if_neg (by omega)]
def Gl (f : Nat → Nat) (st i : Nat) (R : Nat → Nat) : Prop := ∀ k, R k = dv 10 (fun q => ei f st i (9 * k + q)) 9
theorem Gl_0 (f : Nat → Nat) (st : Nat) : Gl f st 0 (fun _ => 0) := by
  intro k
  rw [dv_z]
  intro q hq
  show ei f st 0 (9 * k + q) = 0
  unfold ei; rw [if_neg (by omega)]
theorem Gl_s {f R : Nat → Nat} {st i : Nat} (h : Gl f st i R) : Gl f st (i + 1) (un R ((st + i) / 9) (R ((st + i) / 9) + f i * 10 ^ (8 - (st + i) % 9))) := by
  intro k
  rw [ei_s]
  by_cases q : k = (st + i) / 9
  · subst q
    rw [un_at, h]
    have e1 : (fun q => un (ei f st i) (st + i) (f i) (9 * ((st + i) / 9) + q)) = un (fun q => ei f st i (9 * ((st + i) / 9) + q)) ((st + i) % 9) (f i) := by
      funext q
      unfold un
      by_cases z : q = (st + i) % 9
      · rw [if_pos z, if_pos (by omega)]
      · rw [if_neg z, if_neg (by omega)]
    rw [e1, dv_un (by omega)]
    show ei f st i (9 * ((st + i) / 9) + (st + i) % 9) = 0
    unfold ei; rw [if_neg (by omega)]
  · rw [un_ne _ q, h]
    apply dv_cg
    intro j hj
    show ei f st i (9 * k + j) = un (ei f st i) (st + i) (f i) (9 * k + j)
    rw [un_ne _ (by omega)]
theorem Gl_lt {f R : Nat → Nat} {st i : Nat} (h9 : ∀ i, f i ≤ 9) (h : Gl f st i R) : ∀ k, R k < 1000000000 := by
  intro k
  rw [h k]
  exact dv_lt (b := 10) (n := 9) (fun q _ => by have := ei_9 h9 st i (9 * k + q); show ei f st i (9 * k + q) < 10; omega)
theorem Gl_v {f R : Nat → Nat} {len : Nat} {pl : Int} (h : Gl f (315 - pl).toNat len R) (h1 : pl ≤ 315) (h2 : (len : Int) ≤ pl + 1125) : dv 1000000000 R 160 = sv 1125 f len pl := by
  have e0 : R = fun k => dv 10 (fun q => ei f (315 - pl).toNat len (9 * k + q)) 9 := funext h
  rw [e0, dv_grp]
  generalize hst : (315 - pl).toNat = st at *
  have e1 : 9 * 160 = st + (len + (1440 - st - len)) := by omega
  rw [e1, dv_add, dv_z (n := st) (fun i hi => by unfold ei; rw [if_neg (by omega)]), Nat.zero_mul, Nat.zero_add, dv_add]
  have e2 : dv 10 (fun i => (fun i => ei f st len (st + i)) (len + i)) (1440 - st - len) = 0 := dv_z (fun i hi => by
    show ei f st len (st + (len + i)) = 0
    unfold ei; rw [if_neg (by omega)])
  rw [e2, Nat.add_zero]
  unfold sv
  rw [dv_cg (d := fun i => ei f st len (st + i)) (e := f) (fun i hi => by
    show ei f st len (st + i) = f i
    unfold ei; rw [if_pos (by omega)]; congr 1; omega)]
  congr 2; omega
theorem Gl_Gd {f R : Nat → Nat} {st len : Nat} (h9 : ∀ i, f i ≤ 9) (h : Gl f st len R) (h0 : 0 < len) (hl : st + len ≤ 1440) : Gd R (st / 9) ((st + len - 1) / 9 + 1) := by
  refine ⟨Gl_lt h9 h, fun k hk => ?_, fun k hk _ => ?_, by omega, by omega⟩
  · rw [h k]; exact dv_z (fun q hq => by show ei f st len (9 * k + q) = 0; unfold ei; rw [if_neg (by omega)])
  · rw [h k]; exact dv_z (fun q hq => by show ei f st len (9 * k + q) = 0; unfold ei; rw [if_neg (by omega)])
theorem Gl_LN {f R : Nat → Nat} {st len : Nat} (h : Gl f st len R) (h0 : 0 < len) (hf : f (len - 1) ≠ 0) : LN R ((st + len - 1) / 9 + 1) := by
  refine Or.inr ?_
  rw [Nat.add_sub_cancel, h]
  intro q
  have h1 := dv_e0 (by omega) q ((st + len - 1) % 9) (by omega)
  have h2 : ei f st len (9 * ((st + len - 1) / 9) + (st + len - 1) % 9) = f (len - 1) := by
    unfold ei; rw [if_pos (by omega)]; congr 1; omega
  exact hf (by rw [← h2]; exact h1)
end
section
/-! bits out of rows -/
def bv (b : Nat → Nat) : Nat → Nat
  | 0 => 0
  | c + 1 => bv b c + b c * 2 ^ c
theorem bv_s (b : Nat → Nat) (c : Nat) : bv b (c + 1) = bv b c + b c * 2 ^ c := rfl
theorem bv_cg {b d : Nat → Nat} {c : Nat} (h : ∀ i, i < c → b i = d i) : bv b c = bv d c := by
  induction c with
  | zero => rfl
  | succ c ih => rw [bv_s, bv_s, ih (fun i hi => h i (by omega)), h c (by omega)]
theorem bv_lt {b : Nat → Nat} {c : Nat} (h : ∀ i, i < c → b i < 2) : bv b c < 2 ^ c := by
  induction c with
  | zero => exact Nat.lt_of_sub_eq_succ rfl
  | succ c ih =>
    have h1 := ih (fun i hi => h i (by omega))
    have h2 := h c (by omega)
    have h3 : b c * 2 ^ c ≤ 1 * 2 ^ c := Nat.mul_le_mul_right _ (by omega)
    rw [bv_s, Nat.pow_succ]; omega
theorem bv_split {b : Nat → Nat} {c k : Nat} (h : ∀ i, i < c → b i < 2) (hk : k ≤ c) : bv b c / 2 ^ k = bv (fun i => b (k + i)) (c - k) ∧ bv b c % 2 ^ k = bv b k := by
  obtain ⟨d, rfl⟩ : ∃ d, c = k + d := ⟨c - k, by omega⟩
  rw [Nat.add_sub_cancel_left]
  have hp : 0 < 2 ^ k := Nat.pow_pos (by omega)
  have key : bv b (k + d) = 2 ^ k * bv (fun i => b (k + i)) d + bv b k := by
    clear h
    induction d with
    | zero => rw [Nat.add_zero]; show bv b k = 2 ^ k * 0 + bv b k; omega
    | succ d ih =>
      rw [← Nat.add_assoc, bv_s, ih (by omega), bv_s, Nat.pow_add]
      generalize bv (fun i => b (k + i)) d = x
      generalize bv b k = y
      generalize 2 ^ k = z
      generalize 2 ^ d = w
      grind
  have hl : bv b k < 2 ^ k := bv_lt (fun i hi => h i (by omega))
  rw [key]
  exact ⟨by rw [Nat.mul_add_div hp, Nat.div_eq_of_lt hl, Nat.add_zero], by rw [Nat.mul_add_mod, Nat.mod_eq_of_lt hl]⟩
theorem bv_bit {b : Nat → Nat} {c k : Nat} (h : ∀ i, i < c → b i < 2) (hk : k < c) : b k = bv b c / 2 ^ k % 2 := by
  rw [(bv_split h (Nat.le_of_lt hk)).1]
  have h2 := (bv_split (b := fun i => b (k + i)) (c := c - k) (k := 1) (fun i hi => h _ (by omega)) (by omega)).2
  rw [Nat.pow_one] at h2
  rw [h2]
  show b k = 0 + b (k + 0) * 2 ^ 0
  rw [Nat.pow_zero, Nat.mul_one, Nat.add_zero, Nat.zero_add]
/-- the whole number X0, of which c bits are out and X is left -/
def Bi (X0 X : Nat) (b : Nat → Nat) (c : Nat) : Prop := (∀ i, b i < 2) ∧ X0 = X * 2 ^ c + bv b c ∧ (X = 0 → 0 < c → b (c - 1) = 1)
theorem Bi_0 {X0 : Nat} {b : Nat → Nat} (h : ∀ i, b i < 2) : Bi X0 X0 b 0 := ⟨h, by show X0 = X0 * 2 ^ 0 + 0; rw [Nat.pow_zero]; omega, fun _ h => by omega⟩
theorem Bi_s {X0 X : Nat} {b : Nat → Nat} {c : Nat} (h : Bi X0 X b c) (hX : X ≠ 0) : Bi X0 (X / 2) (un b c (X % 2)) (c + 1) := by
  obtain ⟨h1, h2, h3⟩ := h
  refine ⟨un_lt h1 (by omega), ?_, fun q _ => ?_⟩
  · rw [bv_s, un_at, bv_cg (b := un b c _) (d := b) (fun i hi => un_ne _ (by omega)), h2, Nat.pow_succ]
    have e := Nat.div_add_mod X 2
    generalize X / 2 = x at *
    generalize X % 2 = y at *
    subst e
    generalize 2 ^ c = z
    generalize bv b c = w
    grind
  · rw [Nat.add_sub_cancel, un_at]; omega
theorem Bi_c {X0 X e : Nat} {b : Nat → Nat} {c : Nat} (h : Bi X0 X b c) (hX : X ≠ 0) (hb : X0 < 2 ^ e) : c < e := by
  have h1 : 2 ^ c ≤ X0 := by
    rw [h.2.1]
    have : 1 * 2 ^ c ≤ X * 2 ^ c := Nat.mul_le_mul_right _ (by omega)
    omega
  exact (Nat.pow_lt_pow_iff_right (by omega)).mp (Nat.lt_of_le_of_lt h1 hb)
theorem Bi_e {X0 : Nat} {b : Nat → Nat} {c : Nat} (h : Bi X0 0 b c) : X0 = bv b c ∧ X0 < 2 ^ c ∧ (0 < c → 2 ^ (c - 1) ≤ X0) := by
  obtain ⟨h1, h2, h3⟩ := h
  rw [Nat.zero_mul, Nat.zero_add] at h2
  refine ⟨h2, by rw [h2]; exact bv_lt (fun i _ => h1 i), fun h0 => ?_⟩
  have e : c = (c - 1) + 1 := by omega
  rw [h2, e, bv_s, h3 rfl h0, Nat.add_sub_cancel]
  omega
theorem par_dv {f : Nat → Nat} {n : Nat} (h : 0 < n) : f (n - 1) % 2 = dv 10 f n % 2 := by
  have e : n = (n - 1) + 1 := by omega
  have h1 : dv 10 f n = 10 * dv 10 f (n - 1) + f (n - 1) := by rw [← dv_s, ← e]
  rw [h1]; omega
/-- the leading bits: those from k on are looked at -/
def Ld (X c k m got : Nat) (p : Int) (more : Bool) : Prop := got = min 54 (c - k) ∧ m = X / 2 ^ (c - got) ∧ (0 < got → p = ((c - got : Nat) : Int)) ∧ (got = 0 → p = 0) ∧ (more = true ↔ X / 2 ^ k % 2 ^ (c - got - k) ≠ 0)
theorem Ld_0 {X c : Nat} (h : X < 2 ^ c) : Ld X c c 0 0 0 false := by
  refine ⟨by omega, ?_, fun h => by omega, fun _ => rfl, ?_⟩
  · rw [Nat.sub_zero, Nat.div_eq_of_lt h]
  · rw [Nat.sub_zero, Nat.sub_self, Nat.pow_zero, Nat.mod_one]
    exact ⟨fun h => (by cases h), fun h => absurd rfl h⟩
theorem Ld_s {X c k m got : Nat} {p : Int} (hk : k < c) (h : Ld X c (k + 1) m got p false) (hg : got < 54) : Ld X c k (m * 2 + X / 2 ^ k % 2) (got + 1) (k : Int) false := by
  obtain ⟨h1, h2, h3, h4, h5⟩ := h
  have e1 : c - got = k + 1 := by omega
  have e2 : c - (got + 1) = k := by omega
  refine ⟨by omega, ?_, fun _ => by omega, fun h => by omega, ?_⟩
  · rw [h2, e1, e2, Nat.pow_succ, ← Nat.div_div_eq_div_mul]; omega
  · rw [e2, Nat.sub_self, Nat.pow_zero, Nat.mod_one]
    exact ⟨fun h => (by cases h), fun h => absurd rfl h⟩
theorem Ld_more {X c k m got : Nat} {p : Int} {more : Bool} (h : Ld X c k m got p more) (hk : got < 54) : more = false := by
  obtain ⟨h1, h2, h3, h4, h5⟩ := h
  have e : c - got - k = 0 := by omega
  rw [e, Nat.pow_zero, Nat.mod_one] at h5
  cases more with
  | false => rfl
  | true => exact absurd rfl (h5.mp rfl)
theorem Ld_t {X c k m got : Nat} {p : Int} {more : Bool} (hk : k < c) (h : Ld X c (k + 1) m got p more) (hg : ¬ got < 54) : Ld X c k m got p (more || decide (X / 2 ^ k % 2 ≠ 0)) := by
  obtain ⟨h1, h2, h3, h4, h5⟩ := h
  refine ⟨by omega, h2, h3, h4, ?_⟩
  have e : c - got - k = 1 + (c - got - (k + 1)) := by omega
  rw [e]
  have h6 := mod_split (X / 2 ^ k) 1 (c - got - (k + 1))
  rw [h6, Nat.pow_one, Nat.div_div_eq_div_mul, ← Nat.pow_succ, Bool.or_eq_true, h5, decide_eq_true_iff]
end
section
/-! what a cut decimal is worth -/
theorem dv_nines {f : Nat → Nat} {l n : Nat} (hl : l ≤ n) (h : ∀ i, l ≤ i → i < n → f i = 9) : dv 10 f n + 1 = (dv 10 f l + 1) * 10 ^ (n - l) := by
  obtain ⟨t, rfl⟩ : ∃ t, n = l + t := ⟨n - l, by omega⟩
  rw [Nat.add_sub_cancel_left]
  induction t with
  | zero => rw [Nat.pow_zero, Nat.mul_one]; rfl
  | succ t ih =>
    have h1 := ih (by omega) (fun i a b => h i a (by omega))
    rw [← Nat.add_assoc, dv_s, h (l + t) (by omega) (by omega), Nat.pow_succ, ← Nat.mul_assoc, ← h1]
    omega
theorem sv_up {K : Nat} {f : Nat → Nat} {n : Nat} {p : Int} (hp : (n : Int) ≤ p + K) : sv K (upF f n) (upL f n) (upP f n p) = (dv 10 f n + 1) * 10 ^ (p - n + K).toNat := by
  have hd := dn_le f n
  rw [dv_nines hd (fun i a b => dn_rest f n i a b)]
  unfold sv upF upL upP
  by_cases h : dn f n = 0
  · rw [if_pos h, if_pos h, if_pos h, h, dv_0, Nat.sub_zero, dv_s, dv_0, un_at, Nat.zero_add, Nat.one_mul, Nat.one_mul, ← Nat.pow_add]
    congr 1; omega
  · rw [if_neg h, if_neg h, if_neg h]
    obtain ⟨m, hm⟩ : ∃ m, dn f n = m + 1 := ⟨dn f n - 1, by omega⟩
    rw [hm, Nat.add_sub_cancel, dv_s, dv_s, un_at, dv_cg (d := un f m _) (e := f) (fun k hk => un_ne _ (by omega)), Nat.mul_assoc, ← Nat.pow_add, Nat.add_assoc]
    congr 2; omega
theorem sv_dn {K : Nat} {f : Nat → Nat} {n : Nat} {p : Int} (hp : (n : Int) ≤ p + K) (h0 : 0 < dz f n) : sv K f (dz f n) (dnP f n p) = dv 10 f n * 10 ^ (p - n + K).toNat := by
  have hd := dz_le f n
  unfold sv dnP
  rw [if_neg (by omega), dv_tail (i := dz f n) (n := n) hd (fun k a b => dz_rest f n k a b), Nat.mul_assoc, ← Nat.pow_add]
  congr 2; omega
theorem sv_head {K : Nat} {f : Nat → Nat} {n len : Nat} {p : Int} (hf : ∀ i, f i ≤ 9) (hn : n ≤ len) (hp : (len : Int) ≤ p + K) : dv 10 f n * 10 ^ (p - n + K).toNat ≤ sv K f len p ∧ sv K f len p < (dv 10 f n + 1) * 10 ^ (p - n + K).toNat := by
  obtain ⟨t, rfl⟩ : ∃ t, len = n + t := ⟨len - n, by omega⟩
  have e : (p - n + K).toNat = t + (p - (n + t : Nat) + K).toNat := by omega
  unfold sv
  rw [e, Nat.pow_add, ← Nat.mul_assoc, ← Nat.mul_assoc, dv_add]
  have h1 : dv 10 (fun i => f (n + i)) t < 10 ^ t := dv_lt (fun i _ => by have := hf (n + i); show f (n + i) < 10; omega)
  have hq : 0 < 10 ^ (p - (n + t : Nat) + K).toNat := Nat.pow_pos (by omega)
  refine ⟨Nat.mul_le_mul_right _ (by omega), Nat.mul_lt_mul_of_pos_right ?_ hq⟩
  rw [Nat.add_mul, Nat.one_mul]; omega
/-- down is no more, up is more -/
theorem ct_dn {K : Nat} {f : Nat → Nat} {n len : Nat} {p : Int} (hf : ∀ i, f i ≤ 9) (hn : n < len) (hp : (len : Int) ≤ p + K) (h0 : 0 < dz f n) (hg : ¬ gu f len n = true) : sv K (ctF f len n) (ctL f len n) (ctP f len n p) ≤ sv K f len p := by
  unfold ctF ctL ctP
  rw [if_neg hg, if_neg hg, if_neg hg, sv_dn (by omega) h0]
  exact (sv_head hf (by omega) hp).1
theorem ct_up {K : Nat} {f : Nat → Nat} {n len : Nat} {p : Int} (hf : ∀ i, f i ≤ 9) (hn : n < len) (hp : (len : Int) ≤ p + K) (hg : gu f len n = true) : sv K f len p < sv K (ctF f len n) (ctL f len n) (ctP f len n p) := by
  unfold ctF ctL ctP
  rw [if_pos hg, if_pos hg, if_pos hg, sv_up (by omega)]
  exact (sv_head hf (by omega) hp).2
def Cs (z : Int) (a b : Nat) : Prop := (z < 0 ∧ a < b) ∨ (z = 0 ∧ a = b) ∨ (0 < z ∧ b < a)
end
section
/-! small rows for the walks of Decimal -/
theorem cL_n {f : Nat → Nat} {len n : Nat} (h : n < len) : cL f len (n : Int) = ctL f len n := by
  unfold cL; rw [if_neg (by omega), if_pos (by omega), Int.toNat_natCast]
theorem cP_n {f : Nat → Nat} {len n : Nat} {p : Int} (h : n < len) : cP f len (n : Int) p = ctP f len n p := by
  unfold cP; rw [if_neg (by omega), if_pos (by omega), Int.toNat_natCast]
theorem cF_n {f : Nat → Nat} {len n : Nat} (h : n < len) : cF f len (n : Int) = ctF f len n := by
  unfold cF; rw [if_pos (by omega), Int.toNat_natCast]
theorem cL_neg {f : Nat → Nat} {len : Nat} {z : Int} (h : z < 0) : cL f len z = 0 := if_pos h
theorem cP_neg {f : Nat → Nat} {len : Nat} {z p : Int} (h : z < 0) : cP f len z p = 0 := if_pos h
theorem cF_neg {f : Nat → Nat} {len : Nat} {z : Int} (h : z < 0) : cF f len z = f := if_neg (by omega)
theorem cL_ge {f : Nat → Nat} {len : Nat} {z : Int} (h : (len : Int) ≤ z) : cL f len z = len := by
  unfold cL; rw [if_neg (by omega), if_neg (by omega)]
theorem cP_ge {f : Nat → Nat} {len : Nat} {z p : Int} (h : (len : Int) ≤ z) : cP f len z p = p := by
  unfold cP; rw [if_neg (by omega), if_neg (by omega)]
theorem cF_ge {f : Nat → Nat} {len : Nat} {z : Int} (h : (len : Int) ≤ z) : cF f len z = f := if_neg (by omega)
theorem cpy_lt {f g : Nat → Nat} {n k : Nat} (h : k < n) : va_cpy f g 0 0 n k = f k := by
  unfold va_cpy; rw [if_pos (by omega)]; congr 1; omega
theorem cpy_9 {f g : Nat → Nat} {n : Nat} (hf : ∀ i, f i ≤ 9) (hg : ∀ i, g i ≤ 9) (k : Nat) : va_cpy f g 0 0 n k ≤ 9 := by
  unfold va_cpy; split
  · exact hf _
  · exact hg _
theorem sv_pre {K : Nat} {f g : Nat → Nat} {l m : Nat} {p : Int} (hlm : l < m) (hs : ∀ i, i < l → f i = g i) (h0 : g (m - 1) ≠ 0) (hp : (m : Int) ≤ p + K) : sv K f l p < sv K g m p := by
  obtain ⟨t, rfl⟩ : ∃ t, m = l + t := ⟨m - l, by omega⟩
  unfold sv
  have e : (p - l + K).toNat = t + (p - (l + t : Nat) + K).toNat := by omega
  rw [e, Nat.pow_add, ← Nat.mul_assoc, dv_add, dv_cg hs]
  refine Nat.mul_lt_mul_of_pos_right ?_ (Nat.pow_pos (by omega))
  have h1 : dv 10 (fun i => g (l + i)) t ≠ 0 := by
    intro q
    have := dv_e0 (by omega) q (t - 1) (by omega)
    apply h0
    have e2 : l + t - 1 = l + (t - 1) := by omega
    rw [e2]; exact this
  omega
theorem sv_eq {K : Nat} {f g : Nat → Nat} {l : Nat} {p : Int} (hs : ∀ i, i < l → f i = g i) : sv K f l p = sv K g l p := by
  unfold sv; rw [dv_cg hs]
theorem sv_dig {K : Nat} {f g : Nat → Nat} {l m k : Nat} {p : Int} (hf : ∀ i, f i ≤ 9) (hp : (l : Int) ≤ p + K) (hq : (m : Int) ≤ p + K) (hl : k < l) (hm : k < m) (hs : ∀ i, i < k → f i = g i) (h : f k < g k) : sv K f l p < sv K g m p := by
  refine sv_lex (k := k) (fun i _ => by have := hf i; omega) (Or.inl hl) hp hq (fun i hi => ?_) ?_
  · unfold ext0; rw [if_pos (by omega), if_pos (by omega)]; exact hs i hi
  · unfold ext0; rw [if_pos hl, if_pos hm]; exact h
end
section
/-! small rows for reading -/
def fl (f : Nat → Nat) (v i : Nat) : Nat → Nat := fun j => if j < i then v else f j
theorem fl_0 (f : Nat → Nat) (v : Nat) : fl f v 0 = f := by funext j; unfold fl; rw [if_neg (by omega)]
theorem fl_s (f : Nat → Nat) (v i : Nat) : un (fl f v i) i v = fl f v (i + 1) := by
  funext j; unfold un fl
  by_cases h : j = i
  · rw [if_pos h, if_pos (by omega)]
  · rw [if_neg h]
    by_cases h2 : j < i
    · show (if j < i then v else f j) = _
      rw [if_pos h2, if_pos (by omega)]
    · show (if j < i then v else f j) = _
      rw [if_neg h2, if_neg (by omega)]
def apL (len : Nat) : Nat := if len < 800 then len + 1 else len
def apF (f : Nat → Nat) (len d : Nat) : Nat → Nat := if len < 800 then un f len d else f
theorem apL_p {len : Nat} (h : len < 800) : apL len = len + 1 := if_pos h
theorem apF_p {f : Nat → Nat} {len d : Nat} (h : len < 800) : apF f len d = un f len d := if_pos h
theorem apL_q {len : Nat} (h : ¬ len < 800) : apL len = len := if_neg h
theorem apF_q {f : Nat → Nat} {len d : Nat} (h : ¬ len < 800) : apF f len d = f := if_neg h
theorem RS_ap {R : Nat → Nat} {s j len : Nat} {pl : Int} {f : Nat → Nat} (hs : s ≤ j) (h : RS R s j len pl f) (hd : len ≠ 0 ∨ ge R j ≠ 0) : RS R s (j + 1) (apL len) pl (apF f len (ge R j)) := by
  by_cases q : len < 800
  · rw [apL_p q, apF_p q]; exact RS_app hs h hd q
  · rw [apL_q q, apF_q q]; exact RS_full h (by omega)
def uk (k : Nat) : Nat := 100000000 / 10 ^ k
theorem uk_0 : uk 0 = 100000000 := rfl
theorem uk_9 : uk 9 = 0 := by decide
theorem uk_s (k : Nat) : uk k / 10 = uk (k + 1) := by unfold uk; rw [Nat.div_div_eq_div_mul, ← Nat.pow_succ]
theorem uk_le (k : Nat) : uk k ≤ 100000000 := Nat.div_le_self _ _
theorem uk_e {k : Nat} (h : k < 9) : uk k = 10 ^ (8 - k) := by
  have h2 : ∀ j : Fin 9, uk j.val = 10 ^ (8 - j.val) := by decide
  exact h2 ⟨k, h⟩
theorem uk_pos {k : Nat} (h : k < 9) : 0 < uk k := by rw [uk_e h]; exact Nat.pow_pos (by omega)
theorem uk_ge {R : Nat → Nat} {i k : Nat} (h : k < 9) : R i / uk k % 10 = ge R (9 * i + k) := by
  rw [uk_e h]; unfold ge
  rw [show (9 * i + k) / 9 = i by omega, show (9 * i + k) % 9 = k by omega]
/-- what read leaves -/
def Rd (R : Nat → Nat) (len : Nat) (pl : Int) (f : Nat → Nat) : Prop := Kd f len pl ∧ -1125 ≤ pl ∧ pl ≤ 315 ∧ (dv 1000000000 R 160 = 0 → len = 0) ∧ (dv 1000000000 R 160 ≠ 0 → 0 < len ∧ sv 1125 f len pl = dv 1000000000 R 160 ∧ (len : Int) ≤ pl + 1125)
theorem Rd_of {R : Nat → Nat} {fi en i len : Nat} {pl : Int} {f : Nat → Nat} (hG : Gd R fi en) (hi : i = max fi en) (h : RS R (9 * fi) (9 * i) len pl f) (hno : ∀ j0, ge R j0 ≠ 0 → (∀ i, i < j0 → ge R i = 0) → 9 * en ≤ j0 + 800) : Rd R (dz f len) (dnP f len pl) f := by
  obtain ⟨g1, g2, g3, g4, g5⟩ := hG
  have hlen := RS_len h
  have hpl := RS_pl (by omega) h
  have hdz := dz_le f len
  have hP : -1125 ≤ dnP f len pl ∧ dnP f len pl ≤ 315 := by unfold dnP; split <;> omega
  have hz0 : dz f len = 0 → dnP f len pl = 0 := fun q => by unfold dnP; exact if_pos q
  by_cases hfe : fi ≤ en
  · have e : i = en := by omega
    rw [e] at h
    obtain ⟨n1, n2, n3, n4⟩ := RS_val g1 g2 g3 g4 hfe h hno
    have hdp : 0 < dz f len → dnP f len pl = pl := fun q => by unfold dnP; exact if_neg (by omega)
    refine ⟨⟨h.1, by omega, fun q => ⟨by have := (n1.2 q).1; omega, by have := (n1.2 q).2; omega⟩, hz0⟩, hP.1, hP.2, fun q => ?_, fun q => ?_⟩
    · by_cases z : dz f len = 0
      · exact z
      · have n5 := n3 (by omega)
        have n6 : 10 ^ (pl - 1 + 1125).toNat ≤ sv 1125 f (dz f len) pl := sv_lo n1 (by omega) n4
        rw [n5, q] at n6
        have := Nat.pow_pos (n := (pl - 1 + 1125).toNat) (show 0 < 10 by omega)
        omega
    · have z : 0 < dz f len := by
        by_cases z : dz f len = 0
        · exact absurd (n2 z) q
        · omega
      rw [hdp z]
      exact ⟨z, n3 z, n4⟩
  · have e : i = fi := by omega
    rw [e] at h
    have hl0 : len = 0 := by
      obtain ⟨-, h | ⟨j0, a, b, -⟩⟩ := h
      · exact h.1
      · omega
    have hz : dz f len = 0 := by omega
    have hv : dv 1000000000 R 160 = 0 := dv_z (fun k hk => by
      by_cases q : k < fi
      · exact g2 k q
      · exact g3 k (by omega) hk)
    refine ⟨⟨h.1, by omega, fun q => by omega, hz0⟩, hP.1, hP.2, fun _ => hz, fun q => absurd hv q⟩
end
section
/-! what multiply, divide and beProduct leave -/
def Mpo (fr : Nat) (R : Nat → Nat) (fi en z : Nat) (R' : Nat → Nat) (fi' en' o : Nat) : Prop := Gd R' fi' en' ∧ en' ≤ en ∧ fi' ≤ fi ∧ (en' ≤ fr ∨ R' (en' - 1) ≠ 0) ∧ (∀ j, j < fr → R' j = R j) ∧ ts 1000000000 R' fr (160 - fr) + o * 1000000000 ^ (160 - fr) = ts 1000000000 R fr (160 - fr) * z ∧ o < z
def Dvo (lim : Nat) (R : Nat → Nat) (fi en z : Nat) (R' : Nat → Nat) (fi' en' o : Nat) : Prop := Gd R' fi' en' ∧ (∀ j, lim ≤ j → R' j = R j) ∧ dv 1000000000 R' lim * z + o = dv 1000000000 R lim ∧ o < z ∧ en ≤ en' ∧ fi ≤ fi' ∧ (LN R en → (lim ≤ 35 ∨ o = 0) → LN R' en')
theorem Dvo_of {lim : Nat} {R R2 : Nat → Nat} {fi en en2 i l z e : Nat} (hG : Gd R fi en) (h : DI R R2 fi en en2 i l z) (hE2 : en2 = en ∨ en2 ≤ i) (hlim : lim ≤ 160) (hi : i ≤ lim ∨ (i = fi ∧ l = 0)) (hx : lim ≤ i ∨ (en2 ≤ i ∧ l = 0)) (he : ∀ j, j < e → R2 j = 0) (hfe : fi ≤ e) (he2 : e ≤ 160) : Dvo lim R fi en z R2 e en2 l := by
  have hv := DI_e h hlim hi hx
  obtain ⟨h1, h2, h3, h4, h5, h6, h7, h8, h9, h10⟩ := id h
  refine ⟨⟨h1, he, h4, h6, he2⟩, fun j hj => ?_, hv, h7, h5, hfe, fun hL hc => ?_⟩
  · by_cases q : i ≤ j
    · exact h2 j q
    · have q2 : i = fi := by omega
      rw [h3 j (by omega), hG.2.1 j (by omega)]
  · by_cases q35 : en2 ≤ 35
    · exact Or.inl q35
    · by_cases ql : l = 0
      · rcases h10 hL with q | q | q
        · exact Or.inl q
        · exact Or.inr q.2
        · exact Or.inr (q.2 ql)
      · have hl35 : lim ≤ 35 := by omega
        have hil : i = lim := by omega
        have q : en2 = en := by omega
        refine Or.inr ?_
        rw [h2 _ (by omega), q]
        rcases hL with z | z
        · omega
        · exact z
theorem small_315 : 2 ^ 54 * 2 ^ 971 * 10 ^ 1125 < 1000000000 ^ 160 := by decide +kernel
theorem pr_mul {R R' : Nat → Nat} {fi en fi' en' o m c bt : Nat} (hv : dv 1000000000 R 160 = m * 2 ^ c * 10 ^ 1125) (hm : m < 2 ^ 54) (hc : c + bt ≤ 971) (h : Mpo 0 R fi en (2 ^ bt) R' fi' en' o) : dv 1000000000 R' 160 = m * 2 ^ (c + bt) * 10 ^ 1125 := by
  obtain ⟨-, -, -, -, -, h6, -⟩ := h
  have e1 : ∀ S : Nat → Nat, ts 1000000000 S 0 (160 - 0) = dv 1000000000 S 160 := fun S => dv_cg (fun i _ => by rw [Nat.zero_add])
  rw [e1, e1, hv, Nat.sub_zero] at h6
  have e2 : m * 2 ^ c * 10 ^ 1125 * 2 ^ bt = m * 2 ^ (c + bt) * 10 ^ 1125 := by
    rw [Nat.pow_add, Nat.mul_right_comm, Nat.mul_assoc m]
  rw [e2] at h6
  have h7 : m * 2 ^ (c + bt) * 10 ^ 1125 < 1000000000 ^ 160 := Nat.lt_of_le_of_lt (Nat.mul_le_mul_right _ (Nat.mul_le_mul (Nat.le_of_lt hm) (Nat.pow_le_pow_right (by omega) hc))) small_315
  have h8 : o = 0 := by
    by_cases q : o = 0
    · exact q
    · have : 1 * 1000000000 ^ 160 ≤ o * 1000000000 ^ 160 := Nat.mul_le_mul_right _ (by omega)
      omega
  rw [h8, Nat.zero_mul, Nat.add_zero] at h6
  exact h6
theorem pr_div {R R' : Nat → Nat} {fi en fi' en' o m c bt : Nat} (hv : dv 1000000000 R 160 * 2 ^ c = m * 10 ^ 1125) (hc : c + bt ≤ 1125) (h : Dvo 160 R fi en (2 ^ bt) R' fi' en' o) : o = 0 ∧ dv 1000000000 R' 160 * 2 ^ (c + bt) = m * 10 ^ 1125 := by
  obtain ⟨-, -, h3, h4, -, -, -⟩ := h
  have e1 : dv 1000000000 R 160 = m * 5 ^ 1125 * 2 ^ (1125 - c) := by
    have q : m * 10 ^ 1125 = m * 5 ^ 1125 * 2 ^ (1125 - c) * 2 ^ c := by
      have q2 : (10 : Nat) ^ 1125 = 5 ^ 1125 * 2 ^ 1125 := by rw [← Nat.mul_pow]
      rw [q2, Nat.mul_assoc (m * 5 ^ 1125), ← Nat.pow_add, show 1125 - c + c = 1125 by omega, Nat.mul_assoc]
    rw [q] at hv
    exact Nat.eq_of_mul_eq_mul_right (Nat.pow_pos (by omega)) hv
  have hd : 2 ^ bt ∣ dv 1000000000 R 160 := by
    rw [e1]
    exact Nat.dvd_trans (Nat.pow_dvd_pow 2 (by omega)) (Nat.dvd_mul_left _ _)
  rw [← h3] at hd
  have hd2 : 2 ^ bt ∣ o := (Nat.dvd_add_right (Nat.dvd_mul_left _ _)).mp hd
  have h0 : o = 0 := Nat.eq_zero_of_dvd_of_lt hd2 h4
  refine ⟨h0, ?_⟩
  rw [h0, Nat.add_zero] at h3
  rw [Nat.add_comm c bt, Nat.pow_add, ← Nat.mul_assoc, h3, hv]
theorem pr_0 {m : Nat} (hm : m < 1000000000000000000) : Gd (un (un (fun _ => 0) 33 (m / 1000000000)) 34 (m % 1000000000)) 33 35 ∧ dv 1000000000 (un (un (fun _ => 0) 33 (m / 1000000000)) 34 (m % 1000000000)) 160 = m * 10 ^ 1125 := by
  refine ⟨⟨un_lt (un_lt (fun _ => by omega) (by omega)) (by omega), fun i hi => ?_, fun i hi _ => ?_, by omega, by omega⟩, ?_⟩
  · rw [un_ne _ (by omega), un_ne _ (by omega)]
  · rw [un_ne _ (by omega), un_ne _ (by omega)]
  · rw [dv_tail (i := 35) (n := 160) (by omega) (fun k h1 h2 => by rw [un_ne _ (by omega), un_ne _ (by omega)])]
    rw [show 160 - 35 = 125 by omega, B_125]
    congr 1
    rw [show 35 = (33 + 1) + 1 by omega, dv_s, dv_s, dv_z (n := 33) (fun i hi => by rw [un_ne _ (by omega), un_ne _ (by omega)])]
    have e1 : un (un (fun _ => 0) 33 (m / 1000000000)) 34 (m % 1000000000) 33 = m / 1000000000 := by rw [un_ne _ (by omega), un_at]
    have e2 : un (un (fun _ => 0) 33 (m / 1000000000)) 34 (m % 1000000000) (33 + 1) = m % 1000000000 := un_at _ _ _
    rw [e1, e2]
    omega
/-- what beProduct leaves -/
def Pd (m : Nat) (p : Int) (R : Nat → Nat) (fi en : Nat) : Prop := Gd R fi en ∧ dv 1000000000 R 160 * 2 ^ 1076 = m * 2 ^ (p + 1076).toNat * 10 ^ 1125 ∧ ∀ j0, ge R j0 ≠ 0 → (∀ i, i < j0 → ge R i = 0) → 9 * en ≤ j0 + 800
theorem Pd_mul {m q : Nat} {R : Nat → Nat} {fi en : Nat} (hG : Gd R fi en) (hen : en ≤ 35) (hv : dv 1000000000 R 160 = m * 2 ^ q * 10 ^ 1125) : Pd m (q : Int) R fi en := by
  refine ⟨hG, ?_, fun j0 _ _ => by omega⟩
  have e : ((q : Int) + 1076).toNat = q + 1076 := by omega
  rw [e, hv, Nat.pow_add, Nat.mul_right_comm, Nat.mul_assoc m]
theorem Pd_div {m q : Nat} {R : Nat → Nat} {fi en : Nat} (hG : Gd R fi en) (hL : LN R en) (hm : m < 2 ^ 54) (hq : q ≤ 1075) (hv : dv 1000000000 R 160 * 2 ^ q = m * 10 ^ 1125) : Pd m (-(q : Int)) R fi en := by
  refine ⟨hG, ?_, few_digits hG.1 hG.2.2.2.1 hq hm hv hL⟩
  have e : (-(q : Int) + 1076).toNat = 1076 - q := by omega
  have e2 : (2 : Nat) ^ 1076 = 2 ^ q * 2 ^ (1076 - q) := by rw [← Nat.pow_add, show q + (1076 - q) = 1076 by omega]
  rw [e, e2, ← Nat.mul_assoc, hv, Nat.mul_right_comm]
end
section
/-! DecimalTruth: its object, what its parts leave -/
abbrev xo (x k g w t l hi : Nat) (mi : Bool) (zr : Nat) (pt : Int) : Nat × va_E := oc x 3 [.ref k, vi (b2 mi), vi (zr : Nat), vi pt, .ref g, .ref w, .ref t, .ref l, .ref hi]
def Sp (m : Nat) (p : Int) (len : Nat) (pl : Int) (f : Nat → Nat) : Prop := Kd f len pl ∧ -1125 ≤ pl ∧ pl ≤ 315 ∧ (m = 0 → len = 0) ∧ (m ≠ 0 → 0 < len ∧ sv 1125 f len pl * 2 ^ 1076 = m * 2 ^ (p + 1076).toNat * 10 ^ 1125 ∧ (len : Int) ≤ pl + 1125)
theorem Sp_of {m : Nat} {p : Int} {R f : Nat → Nat} {fi en len : Nat} {pl : Int} (h1 : Pd m p R fi en) (h2 : Rd R len pl f) : Sp m p len pl f := by
  obtain ⟨-, hv, -⟩ := h1
  obtain ⟨a, b, c, d, e⟩ := h2
  have hp : 0 < 2 ^ (p + 1076).toNat := Nat.pow_pos (by omega)
  have hq : 0 < 10 ^ 1125 := Nat.pow_pos (by omega)
  have hr : 0 < 2 ^ 1076 := Nat.pow_pos (by omega)
  refine ⟨a, b, c, fun q => d ?_, fun q => ?_⟩
  · rw [q, Nat.zero_mul, Nat.zero_mul] at hv
    rcases Nat.mul_eq_zero.mp hv with z | z
    · exact z
    · omega
  · have hne : dv 1000000000 R 160 ≠ 0 := by
      intro z
      rw [z, Nat.zero_mul] at hv
      have : 0 < m * 2 ^ (p + 1076).toNat * 10 ^ 1125 := Nat.mul_pos (Nat.mul_pos (by omega) hp) hq
      omega
    obtain ⟨e1, e2, e3⟩ := e hne
    exact ⟨e1, by rw [e2]; exact hv, e3⟩
def rz (n : Nat) : Int := if n = 0 then -1 else (n : Int)
theorem rz_0 : rz 0 = -1 := rfl
theorem rz_s {n : Nat} (h : n ≠ 0) : rz n = (n : Int) := if_neg h
/-- zeros in mind, then a digit -/
def zf (f : Nat → Nat) (len z : Nat) : Nat → Nat := fun j => if len ≤ j ∧ j < len + z then 0 else f j
theorem zf_0 (f : Nat → Nat) (len : Nat) : zf f len 0 = f := by funext j; unfold zf; rw [if_neg (by omega)]
theorem zf_s (f : Nat → Nat) (len z : Nat) : un (zf f len z) (len + z) 0 = zf f len (z + 1) := by
  funext j; unfold un
  by_cases h : j = len + z
  · rw [if_pos h]; unfold zf; rw [if_pos (by omega)]
  · rw [if_neg h]; unfold zf
    by_cases h2 : len ≤ j ∧ j < len + z
    · rw [if_pos h2, if_pos (by omega)]
    · rw [if_neg h2, if_neg (by omega)]
theorem zf_9 {f : Nat → Nat} (h : ∀ i, f i ≤ 9) (len z i : Nat) : zf f len z i ≤ 9 := by
  unfold zf; split
  · omega
  · exact h i
theorem fc_lt (r : Nat) : fc r < 9007199254740992 := (rep_r r).2.1
theorem pw_lt {r : Nat} (h : r < 9218868437227405312) : pw r ≤ 2045 := by unfold pw; omega
end
section
/-! rows for Words -/
theorem zi_bv (a : Nat) : (zi (a : Int)).toBitVec = BitVec.ofNat 32 a := by
  show BitVec.ofInt 32 (a : Int) = _
  exact BitVec.ofInt_natCast 32 a
theorem zi_bve {a : Nat} {x : Int32} (h : x.toBitVec.toNat = a % 2 ^ 32) : x = zi (a : Int) := by
  apply Int32.toBitVec.inj
  apply BitVec.eq_of_toNat_eq
  rw [zi_bv, BitVec.toNat_ofNat, h]
theorem zi_sh31 {k : Nat} (h : k < 32) : ((zi (k : Int)).toUInt32 &&& Int32.toUInt32 31).toNat = k := by
  show ((zi (k : Int)).toBitVec &&& (31 : Int32).toBitVec).toNat = k
  rw [zi_bv, BitVec.toNat_and, BitVec.toNat_ofNat, show (31 : Int32).toBitVec.toNat = 2 ^ 5 - 1 by decide, Nat.and_two_pow_sub_one_eq_mod]
  omega
theorem zi_ushr {a k : Nat} (ha : a < 2 ^ 32) (h : k < 32) : ((zi (a : Int)).toUInt32 >>> ((zi (k : Int)).toUInt32 &&& Int32.toUInt32 31)).toInt32 = zi ((a / 2 ^ k : Nat) : Int) := by
  apply zi_bve
  show ((zi (a : Int)).toUInt32 >>> ((zi (k : Int)).toUInt32 &&& Int32.toUInt32 31)).toNat = _
  rw [UInt32.toNat_shiftRight, zi_sh31 h, Nat.shiftRight_eq_div_pow, Nat.mod_eq_of_lt h]
  have h2 : (zi (a : Int)).toUInt32.toNat = a := by
    show (zi (a : Int)).toBitVec.toNat = a
    rw [zi_bv, BitVec.toNat_ofNat]; omega
  rw [h2, Nat.mod_eq_of_lt (Nat.lt_of_le_of_lt (Nat.div_le_self _ _) ha)]
theorem zi_wraps (a : Int) : zi (a - 4294967296) = zi a := by
  rw [← zi_sub]
  have h : zi 4294967296 = 0 := by decide
  rw [h, Int32.sub_zero]
theorem zi_low (x : Nat) : zi (x : Int) = 0 ↔ x % 4294967296 = 0 := by
  constructor
  · intro h
    have h1 : (zi (x : Int)).toBitVec.toNat = (0 : Int32).toBitVec.toNat := by rw [h]
    rw [zi_bv, BitVec.toNat_ofNat] at h1
    exact h1
  · intro h
    have e := zi_bve (a := x) (x := 0) (by rw [show (2 : Nat) ^ 32 = 4294967296 by decide, h]; decide)
    exact e.symm
/-- the signed number of 64 bits -/
def sj (u : Nat) : Int := if u < 9223372036854775808 then (u : Int) else (u : Int) - 18446744073709551616
theorem sj_rj {u : Nat} (h : u < 18446744073709551616) : rj (sj u) := by unfold sj; split <;> omega
theorem sj_neg {u : Nat} (h : u < 18446744073709551616) : sj u < 0 ↔ 9223372036854775808 ≤ u := by unfold sj; split <;> omega
theorem sj_0 {u : Nat} (h : u < 18446744073709551616) : sj u = 0 ↔ u = 0 := by unfold sj; split <;> omega
theorem zj_sj (x : Nat) : zj (x : Int) = zj (sj (x % 18446744073709551616)) := by
  have h1 := zj_modn x
  rw [show (2 : Nat) ^ 64 = 18446744073709551616 by decide] at h1
  rw [← h1]
  unfold sj
  split
  · rfl
  · exact (zj_wraps _).symm
section WrdRules
variable {K : Kx} {cI cJ : ClassId} {cc : ByteArray} {nL : Nat} {own : String} {rm : Room} {ws : va_W} {k n pc : Nat} {lv : List (Nat × Value)} {st : List Value}
theorem qv_iushr (C : Cx K cI cJ cc nL own rm) {a b : Int} (x y : Nat) (hx1 : a = (x : Int)) (hx2 : x < 4294967296) (hy1 : b = (y : Int)) (hy : y < 32) (d : decode cc pc = .ok (.iushr, 1)) (h : V K nL ws k n (pc + 1) lv (vi ((x / 2 ^ y : Nat) : Int) :: st)) : V K nL ws k n pc lv (vi b :: vi a :: st) := by
  obtain ⟨p, l, e, R, s, m, args, below, meth, c, D, A, Q⟩ := K
  obtain ⟨hx, hb, hml, hown, hts, hK, hA, hR, hnw⟩ := C
  intro H locs ls hP hD hS hl
  subst hx1 hy1
  exact lv_iushr hx hb d (zi_ushr hx2 hy) (h H locs ls hP hD hS hl)
theorem qv_ifneW (C : Cx K cI cJ cc nL own rm) {off : Int} {tgt : Nat} (x : Nat) (ht : (pc : Int) + off = (tgt : Int)) (d : decode cc pc = .ok (.ifCond .ne off, 3)) (h1 : x % 4294967296 ≠ 0 → V K nL ws k n tgt lv st) (h2 : x % 4294967296 = 0 → V K nL ws k n (pc + 3) lv st) : V K nL ws k n pc lv (vi (x : Int) :: st) := by
  obtain ⟨p, l, e, R, s, m, args, below, meth, c, D, A, Q⟩ := K
  obtain ⟨hx, hb, hml, hown, hts, hK, hA, hR, hnw⟩ := C
  intro H locs ls hP hD hS hl
  exact lv_if_ne hx hb d ht (fun q => h1 (fun q2 => q ((zi_low x).mpr q2)) H locs ls hP hD hS hl) (fun q => h2 ((zi_low x).mp q) H locs ls hP hD hS hl)
theorem qv_tjw {z r : Int} (e : zj z = zj r) (h : V K nL ws k n pc lv (vj r :: st)) : V K nL ws k n pc lv (vj z :: st) := by
  have e2 : vj z = vj r := congrArg Value.long e
  rw [e2]; exact h
theorem qv_tiw {z r : Int} (e : zi z = zi r) (h : V K nL ws k n pc lv (vi r :: st)) : V K nL ws k n pc lv (vi z :: st) := by
  have e2 : vi z = vi r := congrArg Value.int e
  rw [e2]; exact h
end WrdRules
abbrev ww (cJ : ClassId) (w wa : Nat) (hm : Bool) (W : Nat → Nat) : va_W := [oc w 2 [.ref wa, vi (b2 hm)], aj cJ wa 70 W]
theorem Tp_a {W : Nat → Nat} {i top o : Nat} (h : Tp W i top) (ho : top < i ∨ o ≠ 0) : Tp (un W i o) (i + 1) top := by
  obtain ⟨h1, h2, h3⟩ := h
  refine ⟨by omega, fun j hj => ?_, fun _ => ?_⟩
  · rw [un_ne _ (by omega)]; exact h2 j hj
  · by_cases q : top = i
    · rw [q, un_at]; omega
    · rw [un_ne _ q]; exact h3 (by omega)
theorem Tp_b {W : Nat → Nat} {i : Nat} (h : Tp W i i) : Tp (un W i 0) (i + 1) (i + 1) := by
  obtain ⟨h1, h2, h3⟩ := h
  refine ⟨by omega, fun j hj => ?_, fun q => by omega⟩
  by_cases q : j = i
  · rw [q, un_at]
  · rw [un_ne _ q]; exact h2 j (by omega)
def Wf (W : Nat → Nat) (lim i : Nat) : Prop := i ≤ lim ∧ (∀ j, j < i → W j = 0) ∧ (i < lim → W i ≠ 0)
theorem Wl_top {G : Nat} {W : Nat → Nat} {mo : Bool} {T top F i : Nat} (h : Wl G W mo T top F) (hi : Wf W 67 i) : (i = 67 ∧ ∀ j, j < 67 → W j = 0) ∨ (i < 67 ∧ top = i ∧ top < T ∧ W top ≠ 0) := by
  obtain ⟨h1, h2, h3, h4, h5, h6, h7, ⟨t1, t2, t3⟩, h9⟩ := h
  obtain ⟨i1, i2, i3⟩ := hi
  by_cases q : i < 67
  · refine Or.inr ?_
    have hne := i3 q
    have hle : top ≤ i := by
      by_cases z : top ≤ i
      · exact z
      · exact absurd (t2 i (by omega)) hne
    have htT : top < T := by
      by_cases z : top < T
      · exact z
      · have : T = 67 := by omega
        omega
    have hge : i ≤ top := by
      by_cases z : i ≤ top
      · exact z
      · exact absurd (i2 top (by omega)) (t3 htT)
    have e : top = i := by omega
    exact ⟨q, e, htT, t3 htT⟩
  · have e : i = 67 := by omega
    subst e
    exact Or.inl ⟨rfl, i2⟩
def INF : Nat := 9218868437227405312
/-- the nearest double's bits, or those of infinity where it is beyond -/
def Nr (G r : Nat) : Prop := (r < INF ∧ Near (G * 2 ^ 1075) (10 ^ 1125) r) ∨ (r = INF ∧ md (INF - 1) * 10 ^ 1125 ≤ G * 2 ^ 1075)
theorem Nr_le {G r : Nat} (h : Nr G r) : r ≤ INF := by rcases h with h | h <;> omega
theorem Nr_near {G r : Nat} (h : Near (G * 2 ^ 1075) (10 ^ 1125) r) (hr : r ≤ INF) : Nr G r := by
  by_cases q : r < INF
  · exact Or.inl ⟨q, h⟩
  · have e : r = INF := by omega
    have e1 : INF - 1 = 9218868437227405311 := by decide +kernel
    have e2 : INF = 9218868437227405312 := rfl
    have h2 := (near_inf (Nat.pow_pos (by omega)) h).mp (by omega)
    rw [← e1] at h2
    exact Or.inr ⟨e, h2⟩
theorem Wl_zero {G : Nat} {W : Nat → Nat} {mo : Bool} {T top F : Nat} (h : Wl G W mo T top F) (hz : ∀ j, j < 67 → W j = 0) : Nr G 0 := by
  obtain ⟨h1, h2, h3, h4, h5, h6, h7, ⟨t1, t2, t3⟩, h9⟩ := h
  have htop : top = T := by
    by_cases q : top < T
    · exact absurd (hz top (by omega)) (t3 q)
    · omega
  have hT : T = 67 := by omega
  subst hT
  rw [dv_z hz, Nat.zero_mul, Nat.zero_add] at h6
  refine Or.inl ⟨by decide, near_0 ?_⟩
  refine Nat.lt_of_le_of_lt ?_ h5
  rw [h6, p32]
  exact Nat.mul_le_mul_left _ (Nat.pow_le_pow_right (by omega) (by omega))
theorem md_inf : md (INF - 1) ≤ 2 ^ 1024 * 2 ^ 1075 := by
  have e : md (INF - 1) = 18014398509481983 * 2 ^ 2045 := by
    unfold md
    have e1 : fc (INF - 1) = 9007199254740991 := by decide
    have e2 : pw (INF - 1) = 2045 := by decide
    rw [e1, e2]
  rw [e, ← Nat.pow_add, show 1024 + 1075 = 54 + 2045 by omega, Nat.pow_add]
  exact Nat.mul_le_mul_right _ (by decide)
theorem Nr_big {G : Nat} (h : 2 ^ 1024 * 10 ^ 1125 ≤ G) : Nr G INF := by
  refine Or.inr ⟨rfl, ?_⟩
  calc md (INF - 1) * 10 ^ 1125 ≤ 2 ^ 1024 * 2 ^ 1075 * 10 ^ 1125 := Nat.mul_le_mul_right _ md_inf
    _ = 2 ^ 1024 * 10 ^ 1125 * 2 ^ 1075 := Nat.mul_right_comm _ _ _
    _ ≤ G * 2 ^ 1075 := Nat.mul_le_mul_right _ h
theorem Wl_big {G : Nat} {W : Nat → Nat} {mo : Bool} {T F : Nat} (h : Wl G W mo T 0 F) (hW : W 0 ≠ 0) : Nr G INF := by
  obtain ⟨h1, h2, h3, h4, h5, h6, h7, -, -⟩ := h
  apply Nr_big
  have e1 : 4294967296 ^ (T - 1) ≤ dv 4294967296 W T := dv_le (by omega) (by omega)
  have e2 : 4294967296 ^ (T - 1) = 2 ^ 1024 * 4294967296 ^ (T - 33) := by
    rw [show (2 : Nat) ^ 1024 = 4294967296 ^ 32 by decide +kernel, ← Nat.pow_add]; congr 1; omega
  have e3 : 2 ^ 1024 * 10 ^ 1125 * 4294967296 ^ (T - 33) ≤ G * 4294967296 ^ (T - 33) := by
    rw [← h6, Nat.mul_right_comm, ← e2]
    exact Nat.le_trans (Nat.mul_le_mul_right _ e1) (Nat.le_add_right _ _)
  exact Nat.le_of_mul_le_mul_right e3 (Nat.pow_pos (by omega))
end
section
/-! rounding the head -/
theorem hd_bits {head b : Nat} (hb : b ≤ 63) : (9223372036854775808 ≤ head * 2 ^ b % 18446744073709551616 ↔ head / 2 ^ (63 - b) % 2 = 1) ∧ (head * 2 ^ b * 2 ^ 1 % 18446744073709551616 = 0 ↔ head % 2 ^ (63 - b) = 0) := by
  have hpb : 0 < 2 ^ b := Nat.pow_pos (by omega)
  have e64 : (18446744073709551616 : Nat) = 2 ^ (64 - b) * 2 ^ b := by rw [← Nat.pow_add, show 64 - b + b = 64 by omega]
  have e63 : (9223372036854775808 : Nat) = 2 ^ (63 - b) * 2 ^ b := by rw [← Nat.pow_add, show 63 - b + b = 63 by omega]
  have e1 : head % 2 ^ (64 - b) = head % 2 ^ (63 - b) + 2 ^ (63 - b) * (head / 2 ^ (63 - b) % 2) := by
    rw [show 64 - b = (63 - b) + 1 by omega, Nat.pow_succ, Nat.mod_mul]
  constructor
  · rw [e64, Nat.mul_mod_mul_right, e63, e1]
    have hlo : head % 2 ^ (63 - b) < 2 ^ (63 - b) := Nat.mod_lt _ (Nat.pow_pos (by omega))
    rcases Nat.mod_two_eq_zero_or_one (head / 2 ^ (63 - b)) with q | q
    · rw [q, Nat.mul_zero, Nat.add_zero]
      have := Nat.mul_lt_mul_of_pos_right hlo hpb
      constructor
      · intro h; omega
      · intro h; omega
    · rw [q, Nat.mul_one]
      constructor
      · intro _; rfl
      · intro _; exact Nat.mul_le_mul_right _ (Nat.le_add_left _ _)
  · have e2 : (18446744073709551616 : Nat) = 2 ^ (63 - b) * (2 ^ b * 2 ^ 1) := by rw [← Nat.pow_add, ← Nat.pow_add, show 63 - b + (b + 1) = 64 by omega]
    rw [Nat.mul_assoc, e2, Nat.mul_mod_mul_right]
    have hp2 : 0 < 2 ^ b * 2 ^ 1 := Nat.mul_pos hpb (by decide)
    constructor
    · intro h
      rcases Nat.mul_eq_zero.mp h with q | q
      · exact q
      · omega
    · intro h; rw [h, Nat.zero_mul]
def Rh (head : Nat) (more : Bool) (tb z : Int) : Prop := (tb < -1075 ∧ z = 0) ∨ ∃ (b q : Nat) (up : Bool), tb + 1 = max (tb - 52) (-1074) + b ∧ max (tb - 52) (-1074) + 1074 = q ∧ z = ((q * 4503599627370496 + head / 2 ^ (64 - b) + (if up = true then 1 else 0) : Nat) : Int) ∧ (up = true ↔ head / 2 ^ (63 - b) % 2 = 1 ∧ (head % 2 ^ (63 - b) ≠ 0 ∨ more = true ∨ head / 2 ^ (64 - b) % 2 = 1))
theorem rs_near {G : Nat} {W : Nat → Nat} {mo more : Bool} {T top F sh head : Nat} {tb z : Int} (h : Wl G W mo T top F) (ht : top < T) (hsh : sh ≤ 31) (hs1 : 2147483648 ≤ W top * 2 ^ sh) (hs2 : W top * 2 ^ sh < 4294967296) (hh : head = W top * 2 ^ (32 + sh) + W (top + 1) * 2 ^ sh + W (top + 2) * 2 ^ sh / 4294967296)
    (hh1 : 9223372036854775808 ≤ head) (hh2 : head < 18446744073709551616) (hm : more = true ↔ W (top + 2) * 2 ^ sh % 4294967296 ≠ 0 ∨ mo = true ∨ ∃ j, top + 3 ≤ j ∧ j < 67 ∧ W j ≠ 0) (htb : tb = (33 - (top : Int)) * 32 - 1 - sh) (htb2 : tb ≤ 1023) (hz : Rh head more tb z) : ∃ r : Nat, z = (r : Int) ∧ Nr G r := by
  obtain ⟨h1, h2, h3, h4, h5, h6, h7, ⟨t1, t2, t3⟩, h9⟩ := id h
  have hU : 0 < 10 ^ 1125 := Nat.pow_pos (by omega)
  generalize hUU : 10 ^ 1125 = U at h5 h6 hU
  rw [p32] at h6
  -- the head's relation to the number
  have key : ∀ (b s : Nat), b ≤ 53 → 0 < s → (s : Int) = tb + 1 - b + 32 * ((T : Int) - 33) → ∃ low : Prop, Hh (dv 4294967296 W T) head s b low ∧ (low ∨ F ≠ 0 ↔ more = true) := by
    intro b s hb hs0 hs
    by_cases hT : top + 3 ≤ T
    · refine ⟨_, Hh_w (b := b) (s := s) (by omega) hsh (h1 _) h1 t2 hT hh (by omega), ?_⟩
      rw [hm, h7]
      have e1 : ts 4294967296 W (top + 3) (T - (top + 3)) ≠ 0 ↔ ∃ j, top + 3 ≤ j ∧ j < 67 ∧ W j ≠ 0 := by
        constructor
        · intro q
          refine Classical.byContradiction fun q2 => q (ts_z (fun k a b => ?_))
          refine Classical.byContradiction fun q3 => q2 ⟨k, a, by omega, q3⟩
        · intro ⟨j, a, b, c⟩ q
          by_cases z : j < T
          · exact c (ts_e0 (by omega) q j a (by omega))
          · exact c (h2 j (by omega) (by omega))
      rw [e1]
      constructor
      · rintro ((q | q) | q)
        · exact Or.inl q
        · exact Or.inr (Or.inr q)
        · exact Or.inr (Or.inl q)
      · rintro (q | q | q)
        · exact Or.inl (Or.inl q)
        · exact Or.inr q
        · exact Or.inl (Or.inr q)
    · have hT67 : T = 67 := by omega
      have hw2 : W (top + 2) = 0 := h2 _ (by omega) (by omega)
      refine ⟨False, Hh_v (b := b) (s := s) hs0 hsh hw2 t2 (by omega) (fun j a b => h2 j a (by omega)) hh (by omega) (by omega), ?_⟩
      rw [hm, h7, hw2]
      constructor
      · rintro (q | q)
        · exact q.elim
        · exact Or.inr (Or.inl q)
      · rintro (q | q | ⟨j, a, b, c⟩)
        · rw [Nat.zero_mul] at q; exact absurd rfl q
        · exact Or.inr q
        · omega
  rcases hz with ⟨hz1, rfl⟩ | ⟨b, q, up, hb, hq, rfl, hup⟩
  · -- below half of the least
    refine ⟨0, rfl, Nr_near ?_ (by decide)⟩
    rw [hUU]
    have hT9 : T = 67 ∨ top + 3 ≤ T := h9
    obtain ⟨s, hs⟩ : ∃ s : Nat, (s : Int) = tb + 1 - ((0 : Nat) : Int) + 32 * ((T : Int) - 33) := ⟨(tb + 1 - ((0 : Nat) : Int) + 32 * ((T : Int) - 33)).toNat, by omega⟩
    have hs0 : 0 < s := by omega
    obtain ⟨low, ⟨k1, k2, k3⟩, -⟩ := key 0 s (by omega) hs0 hs
    have k4 : dv 4294967296 W T / 2 ^ s = 0 := by
      rw [k1]
      exact Nat.div_eq_of_lt (by rw [Nat.sub_zero]; exact hh2)
    have k5 : dv 4294967296 W T < 2 ^ s := by
      rcases (Nat.div_eq_zero_iff).mp k4 with q | q
      · have := Nat.pow_pos (n := s) (show 0 < 2 by omega)
        omega
      · exact q
    apply near_0
    have k6 : dv 4294967296 W T + 1 ≤ 2 ^ (32 * (T - 33) - 1075) := Nat.le_trans k5 (Nat.pow_le_pow_right (by omega) (by omega))
    have k7 : G * 2 ^ (32 * (T - 33)) < 2 ^ (32 * (T - 33) - 1075) * U := by
      rw [← h6]
      have := Nat.mul_le_mul_right U k6
      rw [Nat.add_mul, Nat.one_mul] at this
      omega
    have hT : 1075 ≤ 32 * (T - 33) := by omega
    have k8 : G * 2 ^ 1075 * 2 ^ (32 * (T - 33) - 1075) < U * 2 ^ (32 * (T - 33) - 1075) := by
      rw [Nat.mul_assoc, ← Nat.pow_add, show 1075 + (32 * (T - 33) - 1075) = 32 * (T - 33) by omega, Nat.mul_comm U]
      exact k7
    exact Nat.lt_of_mul_lt_mul_right k8
  · have hb53 : b ≤ 53 := by omega
    obtain ⟨s, hs⟩ : ∃ s : Nat, (s : Int) = tb + 1 - b + 32 * ((T : Int) - 33) := ⟨(tb + 1 - b + 32 * ((T : Int) - 33)).toNat, by
      have : T = 67 ∨ top + 3 ≤ T := h9
      omega⟩
    have hs0 : 0 < s := by
      have : T = 67 ∨ top + 3 ≤ T := h9
      omega
    obtain ⟨low, ⟨k1, k2, k3⟩, k4⟩ := key b s hb53 hs0 hs
    have hf53 : head / 2 ^ (64 - b) < 9007199254740992 := by
      rw [Nat.div_lt_iff_lt_mul (Nat.pow_pos (by omega))]
      have e : (18446744073709551616 : Nat) = 2 ^ b * 2 ^ (64 - b) := by rw [← Nat.pow_add, show b + (64 - b) = 64 by omega]
      have e2 : 2 ^ b * 2 ^ (64 - b) ≤ 9007199254740992 * 2 ^ (64 - b) := Nat.mul_le_mul_right _ (Nat.le_trans (Nat.pow_le_pow_right (by omega) hb53) (by decide))
      omega
    have hq52 : q = 0 ∨ 4503599627370496 ≤ head / 2 ^ (64 - b) := by
      by_cases z : q = 0
      · exact Or.inl z
      · refine Or.inr ?_
        have e : b = 53 := by omega
        rw [e, show 64 - 53 = 11 by omega]
        omega
    have hn := near_cut (G := G) (U := U) (N := dv 4294967296 W T) (F := F) (a := 0) (b := 32 * (T - 33)) (s := s) (q := q) (up := up) hU (by rw [Nat.pow_zero, Nat.mul_one]; exact h6) (by rw [Nat.pow_zero, Nat.mul_one]; exact h5) hs0 (by omega) (by rw [k1]; exact hf53) (by rw [k1]; exact hq52) (by
      rw [hup, k1, k2, k3, ← k4]
      constructor
      · rintro ⟨a, b | b | b⟩
        · exact ⟨a, Or.inl (Or.inl b)⟩
        · rcases b with b | b
          · exact ⟨a, Or.inl (Or.inr b)⟩
          · exact ⟨a, Or.inr (Or.inl b)⟩
        · exact ⟨a, Or.inr (Or.inr b)⟩
      · rintro ⟨a, (b | b) | b | b⟩
        · exact ⟨a, Or.inl b⟩
        · exact ⟨a, Or.inr (Or.inl (Or.inl b))⟩
        · exact ⟨a, Or.inr (Or.inl (Or.inr b))⟩
        · exact ⟨a, Or.inr (Or.inr b)⟩)
    rw [k1] at hn
    refine ⟨_, rfl, Nr_near (by rw [hUU]; exact hn) ?_⟩
    have hI : INF = 9218868437227405312 := rfl
    split <;> omega
end
section
theorem dq_Dec_init_0 : decode kb_Dec_init 0 = .ok (.aload_n 0, 1) := by decide +kernel
theorem dq_Dec_init_1 : decode kb_Dec_init 1 = .ok (.invokespecial 3, 3) := by decide +kernel
theorem dq_Dec_init_4 : decode kb_Dec_init 4 = .ok (.aload_n 0, 1) := by decide +kernel
theorem dq_Dec_init_5 : decode kb_Dec_init 5 = .ok (.sipush 800, 3) := by decide +kernel
theorem dq_Dec_init_8 : decode kb_Dec_init 8 = .ok (.newarray .int, 2) := by decide +kernel
theorem dq_Dec_init_10 : decode kb_Dec_init 10 = .ok (.putfield 9, 3) := by decide +kernel
theorem dq_Dec_init_13 : decode kb_Dec_init 13 = .ok (.return_, 1) := by decide +kernel
theorem dq_Dec_beZero_0 : decode kb_Dec_beZero 0 = .ok (.aload_n 0, 1) := by decide +kernel
theorem dq_Dec_beZero_1 : decode kb_Dec_beZero 1 = .ok (.iconst 0, 1) := by decide +kernel
theorem dq_Dec_beZero_2 : decode kb_Dec_beZero 2 = .ok (.putfield 15, 3) := by decide +kernel
theorem dq_Dec_beZero_5 : decode kb_Dec_beZero 5 = .ok (.aload_n 0, 1) := by decide +kernel
theorem dq_Dec_beZero_6 : decode kb_Dec_beZero 6 = .ok (.iconst 0, 1) := by decide +kernel
theorem dq_Dec_beZero_7 : decode kb_Dec_beZero 7 = .ok (.putfield 19, 3) := by decide +kernel
theorem dq_Dec_beZero_10 : decode kb_Dec_beZero 10 = .ok (.return_, 1) := by decide +kernel
theorem dq_Dec_beStartOf_0 : decode kb_Dec_beStartOf 0 = .ok (.aload_n 1, 1) := by decide +kernel
theorem dq_Dec_beStartOf_1 : decode kb_Dec_beStartOf 1 = .ok (.getfield 9, 3) := by decide +kernel
theorem dq_Dec_beStartOf_4 : decode kb_Dec_beStartOf 4 = .ok (.iconst 0, 1) := by decide +kernel
theorem dq_Dec_beStartOf_5 : decode kb_Dec_beStartOf 5 = .ok (.aload_n 0, 1) := by decide +kernel
theorem dq_Dec_beStartOf_6 : decode kb_Dec_beStartOf 6 = .ok (.getfield 9, 3) := by decide +kernel
theorem dq_Dec_beStartOf_9 : decode kb_Dec_beStartOf 9 = .ok (.iconst 0, 1) := by decide +kernel
theorem dq_Dec_beStartOf_10 : decode kb_Dec_beStartOf 10 = .ok (.iload_n 2, 1) := by decide +kernel
theorem dq_Dec_beStartOf_11 : decode kb_Dec_beStartOf 11 = .ok (.invokestatic 22, 3) := by decide +kernel
theorem dq_Dec_beStartOf_14 : decode kb_Dec_beStartOf 14 = .ok (.aload_n 0, 1) := by decide +kernel
theorem dq_Dec_beStartOf_15 : decode kb_Dec_beStartOf 15 = .ok (.iload_n 2, 1) := by decide +kernel
theorem dq_Dec_beStartOf_16 : decode kb_Dec_beStartOf 16 = .ok (.putfield 15, 3) := by decide +kernel
theorem dq_Dec_beStartOf_19 : decode kb_Dec_beStartOf 19 = .ok (.aload_n 0, 1) := by decide +kernel
theorem dq_Dec_beStartOf_20 : decode kb_Dec_beStartOf 20 = .ok (.aload_n 1, 1) := by decide +kernel
theorem dq_Dec_beStartOf_21 : decode kb_Dec_beStartOf 21 = .ok (.getfield 19, 3) := by decide +kernel
theorem dq_Dec_beStartOf_24 : decode kb_Dec_beStartOf 24 = .ok (.putfield 19, 3) := by decide +kernel
theorem dq_Dec_beStartOf_27 : decode kb_Dec_beStartOf 27 = .ok (.return_, 1) := by decide +kernel
theorem dq_Dec_append_0 : decode kb_Dec_append 0 = .ok (.aload_n 0, 1) := by decide +kernel
theorem dq_Dec_append_1 : decode kb_Dec_append 1 = .ok (.getfield 15, 3) := by decide +kernel
theorem dq_Dec_append_4 : decode kb_Dec_append 4 = .ok (.sipush 800, 3) := by decide +kernel
theorem dq_Dec_append_7 : decode kb_Dec_append 7 = .ok (.if_icmp .ge 23, 3) := by decide +kernel
theorem dq_Dec_append_10 : decode kb_Dec_append 10 = .ok (.aload_n 0, 1) := by decide +kernel
theorem dq_Dec_append_11 : decode kb_Dec_append 11 = .ok (.getfield 9, 3) := by decide +kernel
theorem dq_Dec_append_14 : decode kb_Dec_append 14 = .ok (.aload_n 0, 1) := by decide +kernel
theorem dq_Dec_append_15 : decode kb_Dec_append 15 = .ok (.getfield 15, 3) := by decide +kernel
theorem dq_Dec_append_18 : decode kb_Dec_append 18 = .ok (.iload_n 1, 1) := by decide +kernel
theorem dq_Dec_append_19 : decode kb_Dec_append 19 = .ok (.iastore, 1) := by decide +kernel
theorem dq_Dec_append_20 : decode kb_Dec_append 20 = .ok (.aload_n 0, 1) := by decide +kernel
theorem dq_Dec_append_21 : decode kb_Dec_append 21 = .ok (.dup, 1) := by decide +kernel
theorem dq_Dec_append_22 : decode kb_Dec_append 22 = .ok (.getfield 15, 3) := by decide +kernel
theorem dq_Dec_append_25 : decode kb_Dec_append 25 = .ok (.iconst 1, 1) := by decide +kernel
theorem dq_Dec_append_26 : decode kb_Dec_append 26 = .ok (.iadd, 1) := by decide +kernel
theorem dq_Dec_append_27 : decode kb_Dec_append 27 = .ok (.putfield 15, 3) := by decide +kernel
theorem dq_Dec_append_30 : decode kb_Dec_append 30 = .ok (.return_, 1) := by decide +kernel
theorem dq_Dec_cutBehind_0 : decode kb_Dec_cutBehind 0 = .ok (.iload_n 1, 1) := by decide +kernel
theorem dq_Dec_cutBehind_1 : decode kb_Dec_cutBehind 1 = .ok (.ifCond .ge 10, 3) := by decide +kernel
theorem dq_Dec_cutBehind_4 : decode kb_Dec_cutBehind 4 = .ok (.aload_n 0, 1) := by decide +kernel
theorem dq_Dec_cutBehind_5 : decode kb_Dec_cutBehind 5 = .ok (.invokevirtual 28, 3) := by decide +kernel
theorem dq_Dec_cutBehind_8 : decode kb_Dec_cutBehind 8 = .ok (.goto 27, 3) := by decide +kernel
theorem dq_Dec_cutBehind_11 : decode kb_Dec_cutBehind 11 = .ok (.iload_n 1, 1) := by decide +kernel
theorem dq_Dec_cutBehind_12 : decode kb_Dec_cutBehind 12 = .ok (.aload_n 0, 1) := by decide +kernel
theorem dq_Dec_cutBehind_13 : decode kb_Dec_cutBehind 13 = .ok (.getfield 15, 3) := by decide +kernel
theorem dq_Dec_cutBehind_16 : decode kb_Dec_cutBehind 16 = .ok (.if_icmp .ge 19, 3) := by decide +kernel
theorem dq_Dec_cutBehind_19 : decode kb_Dec_cutBehind 19 = .ok (.aload_n 0, 1) := by decide +kernel
theorem dq_Dec_cutBehind_20 : decode kb_Dec_cutBehind 20 = .ok (.iload_n 1, 1) := by decide +kernel
theorem dq_Dec_cutBehind_21 : decode kb_Dec_cutBehind 21 = .ok (.invokevirtual 31, 3) := by decide +kernel
theorem dq_Dec_cutBehind_24 : decode kb_Dec_cutBehind 24 = .ok (.istore_n 2, 1) := by decide +kernel
theorem dq_Dec_cutBehind_25 : decode kb_Dec_cutBehind 25 = .ok (.aload_n 0, 1) := by decide +kernel
theorem dq_Dec_cutBehind_26 : decode kb_Dec_cutBehind 26 = .ok (.iload_n 1, 1) := by decide +kernel
theorem dq_Dec_cutBehind_27 : decode kb_Dec_cutBehind 27 = .ok (.putfield 15, 3) := by decide +kernel
theorem dq_Dec_cutBehind_30 : decode kb_Dec_cutBehind 30 = .ok (.aload_n 0, 1) := by decide +kernel
theorem dq_Dec_cutBehind_31 : decode kb_Dec_cutBehind 31 = .ok (.iload_n 2, 1) := by decide +kernel
theorem dq_Dec_cutBehind_32 : decode kb_Dec_cutBehind 32 = .ok (.invokevirtual 35, 3) := by decide +kernel
theorem dq_Dec_cutBehind_35 : decode kb_Dec_cutBehind 35 = .ok (.return_, 1) := by decide +kernel
theorem dq_Dec_goesUpBehind_0 : decode kb_Dec_goesUpBehind 0 = .ok (.aload_n 0, 1) := by decide +kernel
theorem dq_Dec_goesUpBehind_1 : decode kb_Dec_goesUpBehind 1 = .ok (.getfield 9, 3) := by decide +kernel
theorem dq_Dec_goesUpBehind_4 : decode kb_Dec_goesUpBehind 4 = .ok (.iload_n 1, 1) := by decide +kernel
theorem dq_Dec_goesUpBehind_5 : decode kb_Dec_goesUpBehind 5 = .ok (.iaload, 1) := by decide +kernel
theorem dq_Dec_goesUpBehind_6 : decode kb_Dec_goesUpBehind 6 = .ok (.iconst 5, 1) := by decide +kernel
theorem dq_Dec_goesUpBehind_7 : decode kb_Dec_goesUpBehind 7 = .ok (.if_icmp .eq 19, 3) := by decide +kernel
theorem dq_Dec_goesUpBehind_10 : decode kb_Dec_goesUpBehind 10 = .ok (.aload_n 0, 1) := by decide +kernel
theorem dq_Dec_goesUpBehind_11 : decode kb_Dec_goesUpBehind 11 = .ok (.getfield 9, 3) := by decide +kernel
theorem dq_Dec_goesUpBehind_14 : decode kb_Dec_goesUpBehind 14 = .ok (.iload_n 1, 1) := by decide +kernel
theorem dq_Dec_goesUpBehind_15 : decode kb_Dec_goesUpBehind 15 = .ok (.iaload, 1) := by decide +kernel
theorem dq_Dec_goesUpBehind_16 : decode kb_Dec_goesUpBehind 16 = .ok (.iconst 5, 1) := by decide +kernel
theorem dq_Dec_goesUpBehind_17 : decode kb_Dec_goesUpBehind 17 = .ok (.if_icmp .le 7, 3) := by decide +kernel
theorem dq_Dec_goesUpBehind_20 : decode kb_Dec_goesUpBehind 20 = .ok (.iconst 1, 1) := by decide +kernel
theorem dq_Dec_goesUpBehind_21 : decode kb_Dec_goesUpBehind 21 = .ok (.goto 4, 3) := by decide +kernel
theorem dq_Dec_goesUpBehind_24 : decode kb_Dec_goesUpBehind 24 = .ok (.iconst 0, 1) := by decide +kernel
theorem dq_Dec_goesUpBehind_25 : decode kb_Dec_goesUpBehind 25 = .ok (.ireturn, 1) := by decide +kernel
theorem dq_Dec_goesUpBehind_26 : decode kb_Dec_goesUpBehind 26 = .ok (.iload_n 1, 1) := by decide +kernel
theorem dq_Dec_goesUpBehind_27 : decode kb_Dec_goesUpBehind 27 = .ok (.aload_n 0, 1) := by decide +kernel
theorem dq_Dec_goesUpBehind_28 : decode kb_Dec_goesUpBehind 28 = .ok (.getfield 15, 3) := by decide +kernel
theorem dq_Dec_goesUpBehind_31 : decode kb_Dec_goesUpBehind 31 = .ok (.iconst 1, 1) := by decide +kernel
theorem dq_Dec_goesUpBehind_32 : decode kb_Dec_goesUpBehind 32 = .ok (.isub, 1) := by decide +kernel
theorem dq_Dec_goesUpBehind_33 : decode kb_Dec_goesUpBehind 33 = .ok (.if_icmp .ne 7, 3) := by decide +kernel
theorem dq_Dec_goesUpBehind_36 : decode kb_Dec_goesUpBehind 36 = .ok (.iconst 1, 1) := by decide +kernel
theorem dq_Dec_goesUpBehind_37 : decode kb_Dec_goesUpBehind 37 = .ok (.goto 4, 3) := by decide +kernel
theorem dq_Dec_goesUpBehind_40 : decode kb_Dec_goesUpBehind 40 = .ok (.iconst 0, 1) := by decide +kernel
theorem dq_Dec_goesUpBehind_41 : decode kb_Dec_goesUpBehind 41 = .ok (.istore_n 2, 1) := by decide +kernel
theorem dq_Dec_goesUpBehind_42 : decode kb_Dec_goesUpBehind 42 = .ok (.iload_n 1, 1) := by decide +kernel
theorem dq_Dec_goesUpBehind_43 : decode kb_Dec_goesUpBehind 43 = .ok (.ifCond .eq 16, 3) := by decide +kernel
theorem dq_Dec_goesUpBehind_46 : decode kb_Dec_goesUpBehind 46 = .ok (.aload_n 0, 1) := by decide +kernel
theorem dq_Dec_goesUpBehind_47 : decode kb_Dec_goesUpBehind 47 = .ok (.getfield 9, 3) := by decide +kernel
theorem dq_Dec_goesUpBehind_50 : decode kb_Dec_goesUpBehind 50 = .ok (.iload_n 1, 1) := by decide +kernel
theorem dq_Dec_goesUpBehind_51 : decode kb_Dec_goesUpBehind 51 = .ok (.iconst 1, 1) := by decide +kernel
theorem dq_Dec_goesUpBehind_52 : decode kb_Dec_goesUpBehind 52 = .ok (.isub, 1) := by decide +kernel
theorem dq_Dec_goesUpBehind_53 : decode kb_Dec_goesUpBehind 53 = .ok (.iaload, 1) := by decide +kernel
theorem dq_Dec_goesUpBehind_54 : decode kb_Dec_goesUpBehind 54 = .ok (.iconst 2, 1) := by decide +kernel
theorem dq_Dec_goesUpBehind_55 : decode kb_Dec_goesUpBehind 55 = .ok (.irem, 1) := by decide +kernel
theorem dq_Dec_goesUpBehind_56 : decode kb_Dec_goesUpBehind 56 = .ok (.ifCond .ne 7, 3) := by decide +kernel
theorem dq_Dec_goesUpBehind_59 : decode kb_Dec_goesUpBehind 59 = .ok (.iconst 1, 1) := by decide +kernel
theorem dq_Dec_goesUpBehind_60 : decode kb_Dec_goesUpBehind 60 = .ok (.goto 4, 3) := by decide +kernel
theorem dq_Dec_goesUpBehind_63 : decode kb_Dec_goesUpBehind 63 = .ok (.iconst 0, 1) := by decide +kernel
theorem dq_Dec_goesUpBehind_64 : decode kb_Dec_goesUpBehind 64 = .ok (.istore_n 3, 1) := by decide +kernel
theorem dq_Dec_goesUpBehind_65 : decode kb_Dec_goesUpBehind 65 = .ok (.iload_n 2, 1) := by decide +kernel
theorem dq_Dec_goesUpBehind_66 : decode kb_Dec_goesUpBehind 66 = .ok (.ifCond .eq 7, 3) := by decide +kernel
theorem dq_Dec_goesUpBehind_69 : decode kb_Dec_goesUpBehind 69 = .ok (.iload_n 3, 1) := by decide +kernel
theorem dq_Dec_goesUpBehind_70 : decode kb_Dec_goesUpBehind 70 = .ok (.ifCond .ne 7, 3) := by decide +kernel
theorem dq_Dec_goesUpBehind_73 : decode kb_Dec_goesUpBehind 73 = .ok (.iconst 1, 1) := by decide +kernel
theorem dq_Dec_goesUpBehind_74 : decode kb_Dec_goesUpBehind 74 = .ok (.goto 4, 3) := by decide +kernel
theorem dq_Dec_goesUpBehind_77 : decode kb_Dec_goesUpBehind 77 = .ok (.iconst 0, 1) := by decide +kernel
theorem dq_Dec_goesUpBehind_78 : decode kb_Dec_goesUpBehind 78 = .ok (.ireturn, 1) := by decide +kernel
theorem dq_Dec_settle_0 : decode kb_Dec_settle 0 = .ok (.iload_n 1, 1) := by decide +kernel
theorem dq_Dec_settle_1 : decode kb_Dec_settle 1 = .ok (.ifCond .eq 10, 3) := by decide +kernel
theorem dq_Dec_settle_4 : decode kb_Dec_settle 4 = .ok (.aload_n 0, 1) := by decide +kernel
theorem dq_Dec_settle_5 : decode kb_Dec_settle 5 = .ok (.invokevirtual 39, 3) := by decide +kernel
theorem dq_Dec_settle_8 : decode kb_Dec_settle 8 = .ok (.goto 7, 3) := by decide +kernel
theorem dq_Dec_settle_11 : decode kb_Dec_settle 11 = .ok (.aload_n 0, 1) := by decide +kernel
theorem dq_Dec_settle_12 : decode kb_Dec_settle 12 = .ok (.invokevirtual 42, 3) := by decide +kernel
theorem dq_Dec_settle_15 : decode kb_Dec_settle 15 = .ok (.return_, 1) := by decide +kernel
theorem dq_Dec_goUp_0 : decode kb_Dec_goUp 0 = .ok (.aload_n 0, 1) := by decide +kernel
theorem dq_Dec_goUp_1 : decode kb_Dec_goUp 1 = .ok (.getfield 15, 3) := by decide +kernel
theorem dq_Dec_goUp_4 : decode kb_Dec_goUp 4 = .ok (.ifCond .le 32, 3) := by decide +kernel
theorem dq_Dec_goUp_7 : decode kb_Dec_goUp 7 = .ok (.aload_n 0, 1) := by decide +kernel
theorem dq_Dec_goUp_8 : decode kb_Dec_goUp 8 = .ok (.getfield 9, 3) := by decide +kernel
theorem dq_Dec_goUp_11 : decode kb_Dec_goUp 11 = .ok (.aload_n 0, 1) := by decide +kernel
theorem dq_Dec_goUp_12 : decode kb_Dec_goUp 12 = .ok (.getfield 15, 3) := by decide +kernel
theorem dq_Dec_goUp_15 : decode kb_Dec_goUp 15 = .ok (.iconst 1, 1) := by decide +kernel
theorem dq_Dec_goUp_16 : decode kb_Dec_goUp 16 = .ok (.isub, 1) := by decide +kernel
theorem dq_Dec_goUp_17 : decode kb_Dec_goUp 17 = .ok (.iaload, 1) := by decide +kernel
theorem dq_Dec_goUp_18 : decode kb_Dec_goUp 18 = .ok (.bipush 9, 2) := by decide +kernel
theorem dq_Dec_goUp_20 : decode kb_Dec_goUp 20 = .ok (.if_icmp .ne 16, 3) := by decide +kernel
theorem dq_Dec_goUp_23 : decode kb_Dec_goUp 23 = .ok (.aload_n 0, 1) := by decide +kernel
theorem dq_Dec_goUp_24 : decode kb_Dec_goUp 24 = .ok (.dup, 1) := by decide +kernel
theorem dq_Dec_goUp_25 : decode kb_Dec_goUp 25 = .ok (.getfield 15, 3) := by decide +kernel
theorem dq_Dec_goUp_28 : decode kb_Dec_goUp 28 = .ok (.iconst 1, 1) := by decide +kernel
theorem dq_Dec_goUp_29 : decode kb_Dec_goUp 29 = .ok (.isub, 1) := by decide +kernel
theorem dq_Dec_goUp_30 : decode kb_Dec_goUp 30 = .ok (.putfield 15, 3) := by decide +kernel
theorem dq_Dec_goUp_33 : decode kb_Dec_goUp 33 = .ok (.goto (-33), 3) := by decide +kernel
theorem dq_Dec_goUp_36 : decode kb_Dec_goUp 36 = .ok (.aload_n 0, 1) := by decide +kernel
theorem dq_Dec_goUp_37 : decode kb_Dec_goUp 37 = .ok (.getfield 15, 3) := by decide +kernel
theorem dq_Dec_goUp_40 : decode kb_Dec_goUp 40 = .ok (.ifCond .ne 28, 3) := by decide +kernel
theorem dq_Dec_goUp_43 : decode kb_Dec_goUp 43 = .ok (.aload_n 0, 1) := by decide +kernel
theorem dq_Dec_goUp_44 : decode kb_Dec_goUp 44 = .ok (.getfield 9, 3) := by decide +kernel
theorem dq_Dec_goUp_47 : decode kb_Dec_goUp 47 = .ok (.iconst 0, 1) := by decide +kernel
theorem dq_Dec_goUp_48 : decode kb_Dec_goUp 48 = .ok (.iconst 1, 1) := by decide +kernel
theorem dq_Dec_goUp_49 : decode kb_Dec_goUp 49 = .ok (.iastore, 1) := by decide +kernel
theorem dq_Dec_goUp_50 : decode kb_Dec_goUp 50 = .ok (.aload_n 0, 1) := by decide +kernel
theorem dq_Dec_goUp_51 : decode kb_Dec_goUp 51 = .ok (.iconst 1, 1) := by decide +kernel
theorem dq_Dec_goUp_52 : decode kb_Dec_goUp 52 = .ok (.putfield 15, 3) := by decide +kernel
theorem dq_Dec_goUp_55 : decode kb_Dec_goUp 55 = .ok (.aload_n 0, 1) := by decide +kernel
theorem dq_Dec_goUp_56 : decode kb_Dec_goUp 56 = .ok (.dup, 1) := by decide +kernel
theorem dq_Dec_goUp_57 : decode kb_Dec_goUp 57 = .ok (.getfield 19, 3) := by decide +kernel
theorem dq_Dec_goUp_60 : decode kb_Dec_goUp 60 = .ok (.iconst 1, 1) := by decide +kernel
theorem dq_Dec_goUp_61 : decode kb_Dec_goUp 61 = .ok (.iadd, 1) := by decide +kernel
theorem dq_Dec_goUp_62 : decode kb_Dec_goUp 62 = .ok (.putfield 19, 3) := by decide +kernel
theorem dq_Dec_goUp_65 : decode kb_Dec_goUp 65 = .ok (.goto 18, 3) := by decide +kernel
theorem dq_Dec_goUp_68 : decode kb_Dec_goUp 68 = .ok (.aload_n 0, 1) := by decide +kernel
theorem dq_Dec_goUp_69 : decode kb_Dec_goUp 69 = .ok (.getfield 9, 3) := by decide +kernel
theorem dq_Dec_goUp_72 : decode kb_Dec_goUp 72 = .ok (.aload_n 0, 1) := by decide +kernel
theorem dq_Dec_goUp_73 : decode kb_Dec_goUp 73 = .ok (.getfield 15, 3) := by decide +kernel
theorem dq_Dec_goUp_76 : decode kb_Dec_goUp 76 = .ok (.iconst 1, 1) := by decide +kernel
theorem dq_Dec_goUp_77 : decode kb_Dec_goUp 77 = .ok (.isub, 1) := by decide +kernel
theorem dq_Dec_goUp_78 : decode kb_Dec_goUp 78 = .ok (.dup2, 1) := by decide +kernel
theorem dq_Dec_goUp_79 : decode kb_Dec_goUp 79 = .ok (.iaload, 1) := by decide +kernel
theorem dq_Dec_goUp_80 : decode kb_Dec_goUp 80 = .ok (.iconst 1, 1) := by decide +kernel
theorem dq_Dec_goUp_81 : decode kb_Dec_goUp 81 = .ok (.iadd, 1) := by decide +kernel
theorem dq_Dec_goUp_82 : decode kb_Dec_goUp 82 = .ok (.iastore, 1) := by decide +kernel
theorem dq_Dec_goUp_83 : decode kb_Dec_goUp 83 = .ok (.return_, 1) := by decide +kernel
theorem dq_Dec_dropZerosAtEnd_0 : decode kb_Dec_dropZerosAtEnd 0 = .ok (.aload_n 0, 1) := by decide +kernel
theorem dq_Dec_dropZerosAtEnd_1 : decode kb_Dec_dropZerosAtEnd 1 = .ok (.getfield 15, 3) := by decide +kernel
theorem dq_Dec_dropZerosAtEnd_4 : decode kb_Dec_dropZerosAtEnd 4 = .ok (.ifCond .le 30, 3) := by decide +kernel
theorem dq_Dec_dropZerosAtEnd_7 : decode kb_Dec_dropZerosAtEnd 7 = .ok (.aload_n 0, 1) := by decide +kernel
theorem dq_Dec_dropZerosAtEnd_8 : decode kb_Dec_dropZerosAtEnd 8 = .ok (.getfield 9, 3) := by decide +kernel
theorem dq_Dec_dropZerosAtEnd_11 : decode kb_Dec_dropZerosAtEnd 11 = .ok (.aload_n 0, 1) := by decide +kernel
theorem dq_Dec_dropZerosAtEnd_12 : decode kb_Dec_dropZerosAtEnd 12 = .ok (.getfield 15, 3) := by decide +kernel
theorem dq_Dec_dropZerosAtEnd_15 : decode kb_Dec_dropZerosAtEnd 15 = .ok (.iconst 1, 1) := by decide +kernel
theorem dq_Dec_dropZerosAtEnd_16 : decode kb_Dec_dropZerosAtEnd 16 = .ok (.isub, 1) := by decide +kernel
theorem dq_Dec_dropZerosAtEnd_17 : decode kb_Dec_dropZerosAtEnd 17 = .ok (.iaload, 1) := by decide +kernel
theorem dq_Dec_dropZerosAtEnd_18 : decode kb_Dec_dropZerosAtEnd 18 = .ok (.ifCond .ne 16, 3) := by decide +kernel
theorem dq_Dec_dropZerosAtEnd_21 : decode kb_Dec_dropZerosAtEnd 21 = .ok (.aload_n 0, 1) := by decide +kernel
theorem dq_Dec_dropZerosAtEnd_22 : decode kb_Dec_dropZerosAtEnd 22 = .ok (.dup, 1) := by decide +kernel
theorem dq_Dec_dropZerosAtEnd_23 : decode kb_Dec_dropZerosAtEnd 23 = .ok (.getfield 15, 3) := by decide +kernel
theorem dq_Dec_dropZerosAtEnd_26 : decode kb_Dec_dropZerosAtEnd 26 = .ok (.iconst 1, 1) := by decide +kernel
theorem dq_Dec_dropZerosAtEnd_27 : decode kb_Dec_dropZerosAtEnd 27 = .ok (.isub, 1) := by decide +kernel
theorem dq_Dec_dropZerosAtEnd_28 : decode kb_Dec_dropZerosAtEnd 28 = .ok (.putfield 15, 3) := by decide +kernel
theorem dq_Dec_dropZerosAtEnd_31 : decode kb_Dec_dropZerosAtEnd 31 = .ok (.goto (-31), 3) := by decide +kernel
theorem dq_Dec_dropZerosAtEnd_34 : decode kb_Dec_dropZerosAtEnd 34 = .ok (.aload_n 0, 1) := by decide +kernel
theorem dq_Dec_dropZerosAtEnd_35 : decode kb_Dec_dropZerosAtEnd 35 = .ok (.getfield 15, 3) := by decide +kernel
theorem dq_Dec_dropZerosAtEnd_38 : decode kb_Dec_dropZerosAtEnd 38 = .ok (.ifCond .ne 8, 3) := by decide +kernel
theorem dq_Dec_dropZerosAtEnd_41 : decode kb_Dec_dropZerosAtEnd 41 = .ok (.aload_n 0, 1) := by decide +kernel
theorem dq_Dec_dropZerosAtEnd_42 : decode kb_Dec_dropZerosAtEnd 42 = .ok (.iconst 0, 1) := by decide +kernel
theorem dq_Dec_dropZerosAtEnd_43 : decode kb_Dec_dropZerosAtEnd 43 = .ok (.putfield 19, 3) := by decide +kernel
theorem dq_Dec_dropZerosAtEnd_46 : decode kb_Dec_dropZerosAtEnd 46 = .ok (.return_, 1) := by decide +kernel
theorem dq_Dec_against_0 : decode kb_Dec_against 0 = .ok (.aload_n 0, 1) := by decide +kernel
theorem dq_Dec_against_1 : decode kb_Dec_against 1 = .ok (.getfield 19, 3) := by decide +kernel
theorem dq_Dec_against_4 : decode kb_Dec_against 4 = .ok (.aload_n 1, 1) := by decide +kernel
theorem dq_Dec_against_5 : decode kb_Dec_against 5 = .ok (.getfield 19, 3) := by decide +kernel
theorem dq_Dec_against_8 : decode kb_Dec_against 8 = .ok (.if_icmp .eq 15, 3) := by decide +kernel
theorem dq_Dec_against_11 : decode kb_Dec_against 11 = .ok (.aload_n 0, 1) := by decide +kernel
theorem dq_Dec_against_12 : decode kb_Dec_against 12 = .ok (.getfield 19, 3) := by decide +kernel
theorem dq_Dec_against_15 : decode kb_Dec_against 15 = .ok (.aload_n 1, 1) := by decide +kernel
theorem dq_Dec_against_16 : decode kb_Dec_against 16 = .ok (.getfield 19, 3) := by decide +kernel
theorem dq_Dec_against_19 : decode kb_Dec_against 19 = .ok (.invokestatic 45, 3) := by decide +kernel
theorem dq_Dec_against_22 : decode kb_Dec_against 22 = .ok (.ireturn, 1) := by decide +kernel
theorem dq_Dec_against_23 : decode kb_Dec_against 23 = .ok (.aload_n 0, 1) := by decide +kernel
theorem dq_Dec_against_24 : decode kb_Dec_against 24 = .ok (.getfield 15, 3) := by decide +kernel
theorem dq_Dec_against_27 : decode kb_Dec_against 27 = .ok (.aload_n 1, 1) := by decide +kernel
theorem dq_Dec_against_28 : decode kb_Dec_against 28 = .ok (.getfield 15, 3) := by decide +kernel
theorem dq_Dec_against_31 : decode kb_Dec_against 31 = .ok (.invokestatic 51, 3) := by decide +kernel
theorem dq_Dec_against_34 : decode kb_Dec_against 34 = .ok (.istore_n 2, 1) := by decide +kernel
theorem dq_Dec_against_35 : decode kb_Dec_against 35 = .ok (.iconst 0, 1) := by decide +kernel
theorem dq_Dec_against_36 : decode kb_Dec_against 36 = .ok (.istore_n 3, 1) := by decide +kernel
theorem dq_Dec_against_37 : decode kb_Dec_against 37 = .ok (.iload_n 3, 1) := by decide +kernel
theorem dq_Dec_against_38 : decode kb_Dec_against 38 = .ok (.iload_n 2, 1) := by decide +kernel
theorem dq_Dec_against_39 : decode kb_Dec_against 39 = .ok (.if_icmp .ge 40, 3) := by decide +kernel
theorem dq_Dec_against_42 : decode kb_Dec_against 42 = .ok (.aload_n 0, 1) := by decide +kernel
theorem dq_Dec_against_43 : decode kb_Dec_against 43 = .ok (.getfield 9, 3) := by decide +kernel
theorem dq_Dec_against_46 : decode kb_Dec_against 46 = .ok (.iload_n 3, 1) := by decide +kernel
theorem dq_Dec_against_47 : decode kb_Dec_against 47 = .ok (.iaload, 1) := by decide +kernel
theorem dq_Dec_against_48 : decode kb_Dec_against 48 = .ok (.aload_n 1, 1) := by decide +kernel
theorem dq_Dec_against_49 : decode kb_Dec_against 49 = .ok (.getfield 9, 3) := by decide +kernel
theorem dq_Dec_against_52 : decode kb_Dec_against 52 = .ok (.iload_n 3, 1) := by decide +kernel
theorem dq_Dec_against_53 : decode kb_Dec_against 53 = .ok (.iaload, 1) := by decide +kernel
theorem dq_Dec_against_54 : decode kb_Dec_against 54 = .ok (.if_icmp .eq 19, 3) := by decide +kernel
theorem dq_Dec_against_57 : decode kb_Dec_against 57 = .ok (.aload_n 0, 1) := by decide +kernel
theorem dq_Dec_against_58 : decode kb_Dec_against 58 = .ok (.getfield 9, 3) := by decide +kernel
theorem dq_Dec_against_61 : decode kb_Dec_against 61 = .ok (.iload_n 3, 1) := by decide +kernel
theorem dq_Dec_against_62 : decode kb_Dec_against 62 = .ok (.iaload, 1) := by decide +kernel
theorem dq_Dec_against_63 : decode kb_Dec_against 63 = .ok (.aload_n 1, 1) := by decide +kernel
theorem dq_Dec_against_64 : decode kb_Dec_against 64 = .ok (.getfield 9, 3) := by decide +kernel
theorem dq_Dec_against_67 : decode kb_Dec_against 67 = .ok (.iload_n 3, 1) := by decide +kernel
theorem dq_Dec_against_68 : decode kb_Dec_against 68 = .ok (.iaload, 1) := by decide +kernel
theorem dq_Dec_against_69 : decode kb_Dec_against 69 = .ok (.invokestatic 45, 3) := by decide +kernel
theorem dq_Dec_against_72 : decode kb_Dec_against 72 = .ok (.ireturn, 1) := by decide +kernel
theorem dq_Dec_against_73 : decode kb_Dec_against 73 = .ok (.iinc 3 1, 3) := by decide +kernel
theorem dq_Dec_against_76 : decode kb_Dec_against 76 = .ok (.goto (-39), 3) := by decide +kernel
theorem dq_Dec_against_79 : decode kb_Dec_against 79 = .ok (.aload_n 0, 1) := by decide +kernel
theorem dq_Dec_against_80 : decode kb_Dec_against 80 = .ok (.getfield 15, 3) := by decide +kernel
theorem dq_Dec_against_83 : decode kb_Dec_against 83 = .ok (.aload_n 1, 1) := by decide +kernel
theorem dq_Dec_against_84 : decode kb_Dec_against 84 = .ok (.getfield 15, 3) := by decide +kernel
theorem dq_Dec_against_87 : decode kb_Dec_against 87 = .ok (.invokestatic 45, 3) := by decide +kernel
theorem dq_Dec_against_90 : decode kb_Dec_against 90 = .ok (.ireturn, 1) := by decide +kernel
theorem dq_Dec_read_0 : decode kb_Dec_read 0 = .ok (.aload_n 0, 1) := by decide +kernel
theorem dq_Dec_read_1 : decode kb_Dec_read 1 = .ok (.iconst 0, 1) := by decide +kernel
theorem dq_Dec_read_2 : decode kb_Dec_read 2 = .ok (.putfield 15, 3) := by decide +kernel
theorem dq_Dec_read_5 : decode kb_Dec_read 5 = .ok (.aload_n 0, 1) := by decide +kernel
theorem dq_Dec_read_6 : decode kb_Dec_read 6 = .ok (.aload_n 1, 1) := by decide +kernel
theorem dq_Dec_read_7 : decode kb_Dec_read 7 = .ok (.invokevirtual 56, 3) := by decide +kernel
theorem dq_Dec_read_10 : decode kb_Dec_read 10 = .ok (.putfield 19, 3) := by decide +kernel
theorem dq_Dec_read_13 : decode kb_Dec_read 13 = .ok (.aload_n 1, 1) := by decide +kernel
theorem dq_Dec_read_14 : decode kb_Dec_read 14 = .ok (.getfield 62, 3) := by decide +kernel
theorem dq_Dec_read_17 : decode kb_Dec_read 17 = .ok (.istore_n 2, 1) := by decide +kernel
theorem dq_Dec_read_18 : decode kb_Dec_read 18 = .ok (.iload_n 2, 1) := by decide +kernel
theorem dq_Dec_read_19 : decode kb_Dec_read 19 = .ok (.aload_n 1, 1) := by decide +kernel
theorem dq_Dec_read_20 : decode kb_Dec_read 20 = .ok (.getfield 65, 3) := by decide +kernel
theorem dq_Dec_read_23 : decode kb_Dec_read 23 = .ok (.if_icmp .ge 19, 3) := by decide +kernel
theorem dq_Dec_read_26 : decode kb_Dec_read 26 = .ok (.aload_n 0, 1) := by decide +kernel
theorem dq_Dec_read_27 : decode kb_Dec_read 27 = .ok (.aload_n 1, 1) := by decide +kernel
theorem dq_Dec_read_28 : decode kb_Dec_read 28 = .ok (.getfield 68, 3) := by decide +kernel
theorem dq_Dec_read_31 : decode kb_Dec_read 31 = .ok (.iload_n 2, 1) := by decide +kernel
theorem dq_Dec_read_32 : decode kb_Dec_read 32 = .ok (.laload, 1) := by decide +kernel
theorem dq_Dec_read_33 : decode kb_Dec_read 33 = .ok (.invokevirtual 72, 3) := by decide +kernel
theorem dq_Dec_read_36 : decode kb_Dec_read 36 = .ok (.iinc 2 1, 3) := by decide +kernel
theorem dq_Dec_read_39 : decode kb_Dec_read 39 = .ok (.goto (-21), 3) := by decide +kernel
theorem dq_Dec_read_42 : decode kb_Dec_read 42 = .ok (.aload_n 0, 1) := by decide +kernel
theorem dq_Dec_read_43 : decode kb_Dec_read 43 = .ok (.invokevirtual 42, 3) := by decide +kernel
theorem dq_Dec_read_46 : decode kb_Dec_read 46 = .ok (.return_, 1) := by decide +kernel
theorem dq_Dec_readGroup_0 : decode kb_Dec_readGroup 0 = .ok (.ldc2_w 76, 3) := by decide +kernel
theorem dq_Dec_readGroup_3 : decode kb_Dec_readGroup 3 = .ok (.lstore_n 3, 1) := by decide +kernel
theorem dq_Dec_readGroup_4 : decode kb_Dec_readGroup 4 = .ok (.lload_n 3, 1) := by decide +kernel
theorem dq_Dec_readGroup_5 : decode kb_Dec_readGroup 5 = .ok (.lconst 0, 1) := by decide +kernel
theorem dq_Dec_readGroup_6 : decode kb_Dec_readGroup 6 = .ok (.lcmp, 1) := by decide +kernel
theorem dq_Dec_readGroup_7 : decode kb_Dec_readGroup 7 = .ok (.ifCond .le 53, 3) := by decide +kernel
theorem dq_Dec_readGroup_10 : decode kb_Dec_readGroup 10 = .ok (.lload_n 1, 1) := by decide +kernel
theorem dq_Dec_readGroup_11 : decode kb_Dec_readGroup 11 = .ok (.lload_n 3, 1) := by decide +kernel
theorem dq_Dec_readGroup_12 : decode kb_Dec_readGroup 12 = .ok (.ldiv, 1) := by decide +kernel
theorem dq_Dec_readGroup_13 : decode kb_Dec_readGroup 13 = .ok (.ldc2_w 78, 3) := by decide +kernel
theorem dq_Dec_readGroup_16 : decode kb_Dec_readGroup 16 = .ok (.lrem, 1) := by decide +kernel
theorem dq_Dec_readGroup_17 : decode kb_Dec_readGroup 17 = .ok (.l2i, 1) := by decide +kernel
theorem dq_Dec_readGroup_18 : decode kb_Dec_readGroup 18 = .ok (.istore 5, 2) := by decide +kernel
theorem dq_Dec_readGroup_20 : decode kb_Dec_readGroup 20 = .ok (.aload_n 0, 1) := by decide +kernel
theorem dq_Dec_readGroup_21 : decode kb_Dec_readGroup 21 = .ok (.getfield 15, 3) := by decide +kernel
theorem dq_Dec_readGroup_24 : decode kb_Dec_readGroup 24 = .ok (.ifCond .ne 21, 3) := by decide +kernel
theorem dq_Dec_readGroup_27 : decode kb_Dec_readGroup 27 = .ok (.iload 5, 2) := by decide +kernel
theorem dq_Dec_readGroup_29 : decode kb_Dec_readGroup 29 = .ok (.ifCond .ne 16, 3) := by decide +kernel
theorem dq_Dec_readGroup_32 : decode kb_Dec_readGroup 32 = .ok (.aload_n 0, 1) := by decide +kernel
theorem dq_Dec_readGroup_33 : decode kb_Dec_readGroup 33 = .ok (.dup, 1) := by decide +kernel
theorem dq_Dec_readGroup_34 : decode kb_Dec_readGroup 34 = .ok (.getfield 19, 3) := by decide +kernel
theorem dq_Dec_readGroup_37 : decode kb_Dec_readGroup 37 = .ok (.iconst 1, 1) := by decide +kernel
theorem dq_Dec_readGroup_38 : decode kb_Dec_readGroup 38 = .ok (.isub, 1) := by decide +kernel
theorem dq_Dec_readGroup_39 : decode kb_Dec_readGroup 39 = .ok (.putfield 19, 3) := by decide +kernel
theorem dq_Dec_readGroup_42 : decode kb_Dec_readGroup 42 = .ok (.goto 9, 3) := by decide +kernel
theorem dq_Dec_readGroup_45 : decode kb_Dec_readGroup 45 = .ok (.aload_n 0, 1) := by decide +kernel
theorem dq_Dec_readGroup_46 : decode kb_Dec_readGroup 46 = .ok (.iload 5, 2) := by decide +kernel
theorem dq_Dec_readGroup_48 : decode kb_Dec_readGroup 48 = .ok (.invokevirtual 80, 3) := by decide +kernel
theorem dq_Dec_readGroup_51 : decode kb_Dec_readGroup 51 = .ok (.lload_n 3, 1) := by decide +kernel
theorem dq_Dec_readGroup_52 : decode kb_Dec_readGroup 52 = .ok (.ldc2_w 78, 3) := by decide +kernel
theorem dq_Dec_readGroup_55 : decode kb_Dec_readGroup 55 = .ok (.ldiv, 1) := by decide +kernel
theorem dq_Dec_readGroup_56 : decode kb_Dec_readGroup 56 = .ok (.lstore_n 3, 1) := by decide +kernel
theorem dq_Dec_readGroup_57 : decode kb_Dec_readGroup 57 = .ok (.goto (-53), 3) := by decide +kernel
theorem dq_Dec_readGroup_60 : decode kb_Dec_readGroup 60 = .ok (.return_, 1) := by decide +kernel
theorem dq_JInt_compare_0 : decode kb_JInt_compare 0 = .ok (.iload_n 0, 1) := by decide +kernel
theorem dq_JInt_compare_1 : decode kb_JInt_compare 1 = .ok (.iload_n 1, 1) := by decide +kernel
theorem dq_JInt_compare_2 : decode kb_JInt_compare 2 = .ok (.if_icmp .ge 7, 3) := by decide +kernel
theorem dq_JInt_compare_5 : decode kb_JInt_compare 5 = .ok (.iconst (-1), 1) := by decide +kernel
theorem dq_JInt_compare_6 : decode kb_JInt_compare 6 = .ok (.goto 13, 3) := by decide +kernel
theorem dq_JInt_compare_9 : decode kb_JInt_compare 9 = .ok (.iload_n 0, 1) := by decide +kernel
theorem dq_JInt_compare_10 : decode kb_JInt_compare 10 = .ok (.iload_n 1, 1) := by decide +kernel
theorem dq_JInt_compare_11 : decode kb_JInt_compare 11 = .ok (.if_icmp .ne 7, 3) := by decide +kernel
theorem dq_JInt_compare_14 : decode kb_JInt_compare 14 = .ok (.iconst 0, 1) := by decide +kernel
theorem dq_JInt_compare_15 : decode kb_JInt_compare 15 = .ok (.goto 4, 3) := by decide +kernel
theorem dq_JInt_compare_18 : decode kb_JInt_compare 18 = .ok (.iconst 1, 1) := by decide +kernel
theorem dq_JInt_compare_19 : decode kb_JInt_compare 19 = .ok (.ireturn, 1) := by decide +kernel
theorem dq_JInt_numberOfLeadingZeros_0 : decode kb_JInt_numberOfLeadingZeros 0 = .ok (.iload_n 0, 1) := by decide +kernel
theorem dq_JInt_numberOfLeadingZeros_1 : decode kb_JInt_numberOfLeadingZeros 1 = .ok (.ifCond .gt 14, 3) := by decide +kernel
theorem dq_JInt_numberOfLeadingZeros_4 : decode kb_JInt_numberOfLeadingZeros 4 = .ok (.iload_n 0, 1) := by decide +kernel
theorem dq_JInt_numberOfLeadingZeros_5 : decode kb_JInt_numberOfLeadingZeros 5 = .ok (.ifCond .ne 8, 3) := by decide +kernel
theorem dq_JInt_numberOfLeadingZeros_8 : decode kb_JInt_numberOfLeadingZeros 8 = .ok (.bipush 32, 2) := by decide +kernel
theorem dq_JInt_numberOfLeadingZeros_10 : decode kb_JInt_numberOfLeadingZeros 10 = .ok (.goto 4, 3) := by decide +kernel
theorem dq_JInt_numberOfLeadingZeros_13 : decode kb_JInt_numberOfLeadingZeros 13 = .ok (.iconst 0, 1) := by decide +kernel
theorem dq_JInt_numberOfLeadingZeros_14 : decode kb_JInt_numberOfLeadingZeros 14 = .ok (.ireturn, 1) := by decide +kernel
theorem dq_JInt_numberOfLeadingZeros_15 : decode kb_JInt_numberOfLeadingZeros 15 = .ok (.bipush 31, 2) := by decide +kernel
theorem dq_JInt_numberOfLeadingZeros_17 : decode kb_JInt_numberOfLeadingZeros 17 = .ok (.istore_n 1, 1) := by decide +kernel
theorem dq_JInt_numberOfLeadingZeros_18 : decode kb_JInt_numberOfLeadingZeros 18 = .ok (.iload_n 0, 1) := by decide +kernel
theorem dq_JInt_numberOfLeadingZeros_19 : decode kb_JInt_numberOfLeadingZeros 19 = .ok (.ldc_w 264, 3) := by decide +kernel
theorem dq_JInt_numberOfLeadingZeros_22 : decode kb_JInt_numberOfLeadingZeros 22 = .ok (.if_icmp .lt 11, 3) := by decide +kernel
theorem dq_JInt_numberOfLeadingZeros_25 : decode kb_JInt_numberOfLeadingZeros 25 = .ok (.iinc 1 (-16), 3) := by decide +kernel
theorem dq_JInt_numberOfLeadingZeros_28 : decode kb_JInt_numberOfLeadingZeros 28 = .ok (.iload_n 0, 1) := by decide +kernel
theorem dq_JInt_numberOfLeadingZeros_29 : decode kb_JInt_numberOfLeadingZeros 29 = .ok (.bipush 16, 2) := by decide +kernel
theorem dq_JInt_numberOfLeadingZeros_31 : decode kb_JInt_numberOfLeadingZeros 31 = .ok (.iushr, 1) := by decide +kernel
theorem dq_JInt_numberOfLeadingZeros_32 : decode kb_JInt_numberOfLeadingZeros 32 = .ok (.istore_n 0, 1) := by decide +kernel
theorem dq_JInt_numberOfLeadingZeros_33 : decode kb_JInt_numberOfLeadingZeros 33 = .ok (.iload_n 0, 1) := by decide +kernel
theorem dq_JInt_numberOfLeadingZeros_34 : decode kb_JInt_numberOfLeadingZeros 34 = .ok (.sipush 256, 3) := by decide +kernel
theorem dq_JInt_numberOfLeadingZeros_37 : decode kb_JInt_numberOfLeadingZeros 37 = .ok (.if_icmp .lt 11, 3) := by decide +kernel
theorem dq_JInt_numberOfLeadingZeros_40 : decode kb_JInt_numberOfLeadingZeros 40 = .ok (.iinc 1 (-8), 3) := by decide +kernel
theorem dq_JInt_numberOfLeadingZeros_43 : decode kb_JInt_numberOfLeadingZeros 43 = .ok (.iload_n 0, 1) := by decide +kernel
theorem dq_JInt_numberOfLeadingZeros_44 : decode kb_JInt_numberOfLeadingZeros 44 = .ok (.bipush 8, 2) := by decide +kernel
theorem dq_JInt_numberOfLeadingZeros_46 : decode kb_JInt_numberOfLeadingZeros 46 = .ok (.iushr, 1) := by decide +kernel
theorem dq_JInt_numberOfLeadingZeros_47 : decode kb_JInt_numberOfLeadingZeros 47 = .ok (.istore_n 0, 1) := by decide +kernel
theorem dq_JInt_numberOfLeadingZeros_48 : decode kb_JInt_numberOfLeadingZeros 48 = .ok (.iload_n 0, 1) := by decide +kernel
theorem dq_JInt_numberOfLeadingZeros_49 : decode kb_JInt_numberOfLeadingZeros 49 = .ok (.bipush 16, 2) := by decide +kernel
theorem dq_JInt_numberOfLeadingZeros_51 : decode kb_JInt_numberOfLeadingZeros 51 = .ok (.if_icmp .lt 10, 3) := by decide +kernel
theorem dq_JInt_numberOfLeadingZeros_54 : decode kb_JInt_numberOfLeadingZeros 54 = .ok (.iinc 1 (-4), 3) := by decide +kernel
theorem dq_JInt_numberOfLeadingZeros_57 : decode kb_JInt_numberOfLeadingZeros 57 = .ok (.iload_n 0, 1) := by decide +kernel
theorem dq_JInt_numberOfLeadingZeros_58 : decode kb_JInt_numberOfLeadingZeros 58 = .ok (.iconst 4, 1) := by decide +kernel
theorem dq_JInt_numberOfLeadingZeros_59 : decode kb_JInt_numberOfLeadingZeros 59 = .ok (.iushr, 1) := by decide +kernel
theorem dq_JInt_numberOfLeadingZeros_60 : decode kb_JInt_numberOfLeadingZeros 60 = .ok (.istore_n 0, 1) := by decide +kernel
theorem dq_JInt_numberOfLeadingZeros_61 : decode kb_JInt_numberOfLeadingZeros 61 = .ok (.iload_n 0, 1) := by decide +kernel
theorem dq_JInt_numberOfLeadingZeros_62 : decode kb_JInt_numberOfLeadingZeros 62 = .ok (.iconst 4, 1) := by decide +kernel
theorem dq_JInt_numberOfLeadingZeros_63 : decode kb_JInt_numberOfLeadingZeros 63 = .ok (.if_icmp .lt 10, 3) := by decide +kernel
theorem dq_JInt_numberOfLeadingZeros_66 : decode kb_JInt_numberOfLeadingZeros 66 = .ok (.iinc 1 (-2), 3) := by decide +kernel
theorem dq_JInt_numberOfLeadingZeros_69 : decode kb_JInt_numberOfLeadingZeros 69 = .ok (.iload_n 0, 1) := by decide +kernel
theorem dq_JInt_numberOfLeadingZeros_70 : decode kb_JInt_numberOfLeadingZeros 70 = .ok (.iconst 2, 1) := by decide +kernel
theorem dq_JInt_numberOfLeadingZeros_71 : decode kb_JInt_numberOfLeadingZeros 71 = .ok (.iushr, 1) := by decide +kernel
theorem dq_JInt_numberOfLeadingZeros_72 : decode kb_JInt_numberOfLeadingZeros 72 = .ok (.istore_n 0, 1) := by decide +kernel
theorem dq_JInt_numberOfLeadingZeros_73 : decode kb_JInt_numberOfLeadingZeros 73 = .ok (.iload_n 1, 1) := by decide +kernel
theorem dq_JInt_numberOfLeadingZeros_74 : decode kb_JInt_numberOfLeadingZeros 74 = .ok (.iload_n 0, 1) := by decide +kernel
theorem dq_JInt_numberOfLeadingZeros_75 : decode kb_JInt_numberOfLeadingZeros 75 = .ok (.iconst 1, 1) := by decide +kernel
theorem dq_JInt_numberOfLeadingZeros_76 : decode kb_JInt_numberOfLeadingZeros 76 = .ok (.iushr, 1) := by decide +kernel
theorem dq_JInt_numberOfLeadingZeros_77 : decode kb_JInt_numberOfLeadingZeros 77 = .ok (.isub, 1) := by decide +kernel
theorem dq_JInt_numberOfLeadingZeros_78 : decode kb_JInt_numberOfLeadingZeros 78 = .ok (.ireturn, 1) := by decide +kernel
theorem dq_JLon_numberOfLeadingZeros_0 : decode kb_JLon_numberOfLeadingZeros 0 = .ok (.lload_n 0, 1) := by decide +kernel
theorem dq_JLon_numberOfLeadingZeros_1 : decode kb_JLon_numberOfLeadingZeros 1 = .ok (.bipush 32, 2) := by decide +kernel
theorem dq_JLon_numberOfLeadingZeros_3 : decode kb_JLon_numberOfLeadingZeros 3 = .ok (.lushr, 1) := by decide +kernel
theorem dq_JLon_numberOfLeadingZeros_4 : decode kb_JLon_numberOfLeadingZeros 4 = .ok (.l2i, 1) := by decide +kernel
theorem dq_JLon_numberOfLeadingZeros_5 : decode kb_JLon_numberOfLeadingZeros 5 = .ok (.istore_n 2, 1) := by decide +kernel
theorem dq_JLon_numberOfLeadingZeros_6 : decode kb_JLon_numberOfLeadingZeros 6 = .ok (.iload_n 2, 1) := by decide +kernel
theorem dq_JLon_numberOfLeadingZeros_7 : decode kb_JLon_numberOfLeadingZeros 7 = .ok (.ifCond .ne 14, 3) := by decide +kernel
theorem dq_JLon_numberOfLeadingZeros_10 : decode kb_JLon_numberOfLeadingZeros 10 = .ok (.bipush 32, 2) := by decide +kernel
theorem dq_JLon_numberOfLeadingZeros_12 : decode kb_JLon_numberOfLeadingZeros 12 = .ok (.lload_n 0, 1) := by decide +kernel
theorem dq_JLon_numberOfLeadingZeros_13 : decode kb_JLon_numberOfLeadingZeros 13 = .ok (.l2i, 1) := by decide +kernel
theorem dq_JLon_numberOfLeadingZeros_14 : decode kb_JLon_numberOfLeadingZeros 14 = .ok (.invokestatic 308, 3) := by decide +kernel
theorem dq_JLon_numberOfLeadingZeros_17 : decode kb_JLon_numberOfLeadingZeros 17 = .ok (.iadd, 1) := by decide +kernel
theorem dq_JLon_numberOfLeadingZeros_18 : decode kb_JLon_numberOfLeadingZeros 18 = .ok (.goto 7, 3) := by decide +kernel
theorem dq_JLon_numberOfLeadingZeros_21 : decode kb_JLon_numberOfLeadingZeros 21 = .ok (.iload_n 2, 1) := by decide +kernel
theorem dq_JLon_numberOfLeadingZeros_22 : decode kb_JLon_numberOfLeadingZeros 22 = .ok (.invokestatic 308, 3) := by decide +kernel
theorem dq_JLon_numberOfLeadingZeros_25 : decode kb_JLon_numberOfLeadingZeros 25 = .ok (.ireturn, 1) := by decide +kernel
theorem dq_JArr_fill_0 : decode kb_JArr_fill 0 = .ok (.iconst 0, 1) := by decide +kernel
theorem dq_JArr_fill_1 : decode kb_JArr_fill 1 = .ok (.istore_n 3, 1) := by decide +kernel
theorem dq_JArr_fill_2 : decode kb_JArr_fill 2 = .ok (.aload_n 0, 1) := by decide +kernel
theorem dq_JArr_fill_3 : decode kb_JArr_fill 3 = .ok (.arraylength, 1) := by decide +kernel
theorem dq_JArr_fill_4 : decode kb_JArr_fill 4 = .ok (.istore 4, 2) := by decide +kernel
theorem dq_JArr_fill_6 : decode kb_JArr_fill 6 = .ok (.iload_n 3, 1) := by decide +kernel
theorem dq_JArr_fill_7 : decode kb_JArr_fill 7 = .ok (.iload 4, 2) := by decide +kernel
theorem dq_JArr_fill_9 : decode kb_JArr_fill 9 = .ok (.if_icmp .ge 13, 3) := by decide +kernel
theorem dq_JArr_fill_12 : decode kb_JArr_fill 12 = .ok (.aload_n 0, 1) := by decide +kernel
theorem dq_JArr_fill_13 : decode kb_JArr_fill 13 = .ok (.iload_n 3, 1) := by decide +kernel
theorem dq_JArr_fill_14 : decode kb_JArr_fill 14 = .ok (.lload_n 1, 1) := by decide +kernel
theorem dq_JArr_fill_15 : decode kb_JArr_fill 15 = .ok (.lastore, 1) := by decide +kernel
theorem dq_JArr_fill_16 : decode kb_JArr_fill 16 = .ok (.iinc 3 1, 3) := by decide +kernel
theorem dq_JArr_fill_19 : decode kb_JArr_fill 19 = .ok (.goto (-13), 3) := by decide +kernel
theorem dq_JArr_fill_22 : decode kb_JArr_fill 22 = .ok (.return_, 1) := by decide +kernel
end
section
theorem dq_Grp_init_0 : decode kb_Grp_init 0 = .ok (.aload_n 0, 1) := by decide +kernel
theorem dq_Grp_init_1 : decode kb_Grp_init 1 = .ok (.invokespecial 5, 3) := by decide +kernel
theorem dq_Grp_init_4 : decode kb_Grp_init 4 = .ok (.aload_n 0, 1) := by decide +kernel
theorem dq_Grp_init_5 : decode kb_Grp_init 5 = .ok (.sipush 160, 3) := by decide +kernel
theorem dq_Grp_init_8 : decode kb_Grp_init 8 = .ok (.newarray .long, 2) := by decide +kernel
theorem dq_Grp_init_10 : decode kb_Grp_init 10 = .ok (.putfield 11, 3) := by decide +kernel
theorem dq_Grp_init_13 : decode kb_Grp_init 13 = .ok (.return_, 1) := by decide +kernel
theorem dq_Grp_placeOfFirst_0 : decode kb_Grp_placeOfFirst 0 = .ok (.bipush 35, 2) := by decide +kernel
theorem dq_Grp_placeOfFirst_2 : decode kb_Grp_placeOfFirst 2 = .ok (.aload_n 0, 1) := by decide +kernel
theorem dq_Grp_placeOfFirst_3 : decode kb_Grp_placeOfFirst 3 = .ok (.getfield 15, 3) := by decide +kernel
theorem dq_Grp_placeOfFirst_6 : decode kb_Grp_placeOfFirst 6 = .ok (.isub, 1) := by decide +kernel
theorem dq_Grp_placeOfFirst_7 : decode kb_Grp_placeOfFirst 7 = .ok (.bipush 9, 2) := by decide +kernel
theorem dq_Grp_placeOfFirst_9 : decode kb_Grp_placeOfFirst 9 = .ok (.imul, 1) := by decide +kernel
theorem dq_Grp_placeOfFirst_10 : decode kb_Grp_placeOfFirst 10 = .ok (.ireturn, 1) := by decide +kernel
theorem dq_Grp_hasSomethingBehindPoint_0 : decode kb_Grp_hasSomethingBehindPoint 0 = .ok (.aload_n 0, 1) := by decide +kernel
theorem dq_Grp_hasSomethingBehindPoint_1 : decode kb_Grp_hasSomethingBehindPoint 1 = .ok (.getfield 19, 3) := by decide +kernel
theorem dq_Grp_hasSomethingBehindPoint_4 : decode kb_Grp_hasSomethingBehindPoint 4 = .ok (.bipush 35, 2) := by decide +kernel
theorem dq_Grp_hasSomethingBehindPoint_6 : decode kb_Grp_hasSomethingBehindPoint 6 = .ok (.if_icmp .le 7, 3) := by decide +kernel
theorem dq_Grp_hasSomethingBehindPoint_9 : decode kb_Grp_hasSomethingBehindPoint 9 = .ok (.iconst 1, 1) := by decide +kernel
theorem dq_Grp_hasSomethingBehindPoint_10 : decode kb_Grp_hasSomethingBehindPoint 10 = .ok (.goto 4, 3) := by decide +kernel
theorem dq_Grp_hasSomethingBehindPoint_13 : decode kb_Grp_hasSomethingBehindPoint 13 = .ok (.iconst 0, 1) := by decide +kernel
theorem dq_Grp_hasSomethingBehindPoint_14 : decode kb_Grp_hasSomethingBehindPoint 14 = .ok (.ireturn, 1) := by decide +kernel
theorem dq_Grp_beProduct_0 : decode kb_Grp_beProduct 0 = .ok (.aload_n 0, 1) := by decide +kernel
theorem dq_Grp_beProduct_1 : decode kb_Grp_beProduct 1 = .ok (.getfield 11, 3) := by decide +kernel
theorem dq_Grp_beProduct_4 : decode kb_Grp_beProduct 4 = .ok (.lconst 0, 1) := by decide +kernel
theorem dq_Grp_beProduct_5 : decode kb_Grp_beProduct 5 = .ok (.invokestatic 22, 3) := by decide +kernel
theorem dq_Grp_beProduct_8 : decode kb_Grp_beProduct 8 = .ok (.aload_n 0, 1) := by decide +kernel
theorem dq_Grp_beProduct_9 : decode kb_Grp_beProduct 9 = .ok (.getfield 11, 3) := by decide +kernel
theorem dq_Grp_beProduct_12 : decode kb_Grp_beProduct 12 = .ok (.bipush 33, 2) := by decide +kernel
theorem dq_Grp_beProduct_14 : decode kb_Grp_beProduct 14 = .ok (.lload_n 1, 1) := by decide +kernel
theorem dq_Grp_beProduct_15 : decode kb_Grp_beProduct 15 = .ok (.ldc2_w 28, 3) := by decide +kernel
theorem dq_Grp_beProduct_18 : decode kb_Grp_beProduct 18 = .ok (.ldiv, 1) := by decide +kernel
theorem dq_Grp_beProduct_19 : decode kb_Grp_beProduct 19 = .ok (.lastore, 1) := by decide +kernel
theorem dq_Grp_beProduct_20 : decode kb_Grp_beProduct 20 = .ok (.aload_n 0, 1) := by decide +kernel
theorem dq_Grp_beProduct_21 : decode kb_Grp_beProduct 21 = .ok (.getfield 11, 3) := by decide +kernel
theorem dq_Grp_beProduct_24 : decode kb_Grp_beProduct 24 = .ok (.bipush 34, 2) := by decide +kernel
theorem dq_Grp_beProduct_26 : decode kb_Grp_beProduct 26 = .ok (.lload_n 1, 1) := by decide +kernel
theorem dq_Grp_beProduct_27 : decode kb_Grp_beProduct 27 = .ok (.ldc2_w 28, 3) := by decide +kernel
theorem dq_Grp_beProduct_30 : decode kb_Grp_beProduct 30 = .ok (.lrem, 1) := by decide +kernel
theorem dq_Grp_beProduct_31 : decode kb_Grp_beProduct 31 = .ok (.lastore, 1) := by decide +kernel
theorem dq_Grp_beProduct_32 : decode kb_Grp_beProduct 32 = .ok (.aload_n 0, 1) := by decide +kernel
theorem dq_Grp_beProduct_33 : decode kb_Grp_beProduct 33 = .ok (.bipush 33, 2) := by decide +kernel
theorem dq_Grp_beProduct_35 : decode kb_Grp_beProduct 35 = .ok (.putfield 15, 3) := by decide +kernel
theorem dq_Grp_beProduct_38 : decode kb_Grp_beProduct 38 = .ok (.aload_n 0, 1) := by decide +kernel
theorem dq_Grp_beProduct_39 : decode kb_Grp_beProduct 39 = .ok (.bipush 35, 2) := by decide +kernel
theorem dq_Grp_beProduct_41 : decode kb_Grp_beProduct 41 = .ok (.putfield 19, 3) := by decide +kernel
theorem dq_Grp_beProduct_44 : decode kb_Grp_beProduct 44 = .ok (.iload_n 3, 1) := by decide +kernel
theorem dq_Grp_beProduct_45 : decode kb_Grp_beProduct 45 = .ok (.istore 4, 2) := by decide +kernel
theorem dq_Grp_beProduct_47 : decode kb_Grp_beProduct 47 = .ok (.iload 4, 2) := by decide +kernel
theorem dq_Grp_beProduct_49 : decode kb_Grp_beProduct 49 = .ok (.ifCond .le 22, 3) := by decide +kernel
theorem dq_Grp_beProduct_52 : decode kb_Grp_beProduct 52 = .ok (.aload_n 0, 1) := by decide +kernel
theorem dq_Grp_beProduct_53 : decode kb_Grp_beProduct 53 = .ok (.iconst 0, 1) := by decide +kernel
theorem dq_Grp_beProduct_54 : decode kb_Grp_beProduct 54 = .ok (.iload 4, 2) := by decide +kernel
theorem dq_Grp_beProduct_56 : decode kb_Grp_beProduct 56 = .ok (.bipush 32, 2) := by decide +kernel
theorem dq_Grp_beProduct_58 : decode kb_Grp_beProduct 58 = .ok (.invokestatic 30, 3) := by decide +kernel
theorem dq_Grp_beProduct_61 : decode kb_Grp_beProduct 61 = .ok (.invokevirtual 36, 3) := by decide +kernel
theorem dq_Grp_beProduct_64 : decode kb_Grp_beProduct 64 = .ok (.pop2, 1) := by decide +kernel
theorem dq_Grp_beProduct_65 : decode kb_Grp_beProduct 65 = .ok (.iinc 4 (-32), 3) := by decide +kernel
theorem dq_Grp_beProduct_68 : decode kb_Grp_beProduct 68 = .ok (.goto (-21), 3) := by decide +kernel
theorem dq_Grp_beProduct_71 : decode kb_Grp_beProduct 71 = .ok (.iload_n 3, 1) := by decide +kernel
theorem dq_Grp_beProduct_72 : decode kb_Grp_beProduct 72 = .ok (.ineg, 1) := by decide +kernel
theorem dq_Grp_beProduct_73 : decode kb_Grp_beProduct 73 = .ok (.istore 4, 2) := by decide +kernel
theorem dq_Grp_beProduct_75 : decode kb_Grp_beProduct 75 = .ok (.iload 4, 2) := by decide +kernel
theorem dq_Grp_beProduct_77 : decode kb_Grp_beProduct 77 = .ok (.ifCond .le 24, 3) := by decide +kernel
theorem dq_Grp_beProduct_80 : decode kb_Grp_beProduct 80 = .ok (.aload_n 0, 1) := by decide +kernel
theorem dq_Grp_beProduct_81 : decode kb_Grp_beProduct 81 = .ok (.sipush 160, 3) := by decide +kernel
theorem dq_Grp_beProduct_84 : decode kb_Grp_beProduct 84 = .ok (.iload 4, 2) := by decide +kernel
theorem dq_Grp_beProduct_86 : decode kb_Grp_beProduct 86 = .ok (.bipush 32, 2) := by decide +kernel
theorem dq_Grp_beProduct_88 : decode kb_Grp_beProduct 88 = .ok (.invokestatic 30, 3) := by decide +kernel
theorem dq_Grp_beProduct_91 : decode kb_Grp_beProduct 91 = .ok (.invokevirtual 40, 3) := by decide +kernel
theorem dq_Grp_beProduct_94 : decode kb_Grp_beProduct 94 = .ok (.pop2, 1) := by decide +kernel
theorem dq_Grp_beProduct_95 : decode kb_Grp_beProduct 95 = .ok (.iinc 4 (-32), 3) := by decide +kernel
theorem dq_Grp_beProduct_98 : decode kb_Grp_beProduct 98 = .ok (.goto (-23), 3) := by decide +kernel
theorem dq_Grp_beProduct_101 : decode kb_Grp_beProduct 101 = .ok (.return_, 1) := by decide +kernel
theorem dq_Grp_load_0 : decode kb_Grp_load 0 = .ok (.aload_n 0, 1) := by decide +kernel
theorem dq_Grp_load_1 : decode kb_Grp_load 1 = .ok (.getfield 11, 3) := by decide +kernel
theorem dq_Grp_load_4 : decode kb_Grp_load 4 = .ok (.lconst 0, 1) := by decide +kernel
theorem dq_Grp_load_5 : decode kb_Grp_load 5 = .ok (.invokestatic 22, 3) := by decide +kernel
theorem dq_Grp_load_8 : decode kb_Grp_load 8 = .ok (.sipush 315, 3) := by decide +kernel
theorem dq_Grp_load_11 : decode kb_Grp_load 11 = .ok (.aload_n 1, 1) := by decide +kernel
theorem dq_Grp_load_12 : decode kb_Grp_load 12 = .ok (.getfield 43, 3) := by decide +kernel
theorem dq_Grp_load_15 : decode kb_Grp_load 15 = .ok (.isub, 1) := by decide +kernel
theorem dq_Grp_load_16 : decode kb_Grp_load 16 = .ok (.istore_n 2, 1) := by decide +kernel
theorem dq_Grp_load_17 : decode kb_Grp_load 17 = .ok (.iconst 0, 1) := by decide +kernel
theorem dq_Grp_load_18 : decode kb_Grp_load 18 = .ok (.istore_n 3, 1) := by decide +kernel
theorem dq_Grp_load_19 : decode kb_Grp_load 19 = .ok (.iload_n 3, 1) := by decide +kernel
theorem dq_Grp_load_20 : decode kb_Grp_load 20 = .ok (.aload_n 1, 1) := by decide +kernel
theorem dq_Grp_load_21 : decode kb_Grp_load 21 = .ok (.getfield 48, 3) := by decide +kernel
theorem dq_Grp_load_24 : decode kb_Grp_load 24 = .ok (.if_icmp .ge 44, 3) := by decide +kernel
theorem dq_Grp_load_27 : decode kb_Grp_load 27 = .ok (.iload_n 2, 1) := by decide +kernel
theorem dq_Grp_load_28 : decode kb_Grp_load 28 = .ok (.iload_n 3, 1) := by decide +kernel
theorem dq_Grp_load_29 : decode kb_Grp_load 29 = .ok (.iadd, 1) := by decide +kernel
theorem dq_Grp_load_30 : decode kb_Grp_load 30 = .ok (.istore 4, 2) := by decide +kernel
theorem dq_Grp_load_32 : decode kb_Grp_load 32 = .ok (.aload_n 0, 1) := by decide +kernel
theorem dq_Grp_load_33 : decode kb_Grp_load 33 = .ok (.getfield 11, 3) := by decide +kernel
theorem dq_Grp_load_36 : decode kb_Grp_load 36 = .ok (.iload 4, 2) := by decide +kernel
theorem dq_Grp_load_38 : decode kb_Grp_load 38 = .ok (.bipush 9, 2) := by decide +kernel
theorem dq_Grp_load_40 : decode kb_Grp_load 40 = .ok (.idiv, 1) := by decide +kernel
theorem dq_Grp_load_41 : decode kb_Grp_load 41 = .ok (.dup2, 1) := by decide +kernel
theorem dq_Grp_load_42 : decode kb_Grp_load 42 = .ok (.laload, 1) := by decide +kernel
theorem dq_Grp_load_43 : decode kb_Grp_load 43 = .ok (.aload_n 1, 1) := by decide +kernel
theorem dq_Grp_load_44 : decode kb_Grp_load 44 = .ok (.getfield 51, 3) := by decide +kernel
theorem dq_Grp_load_47 : decode kb_Grp_load 47 = .ok (.iload_n 3, 1) := by decide +kernel
theorem dq_Grp_load_48 : decode kb_Grp_load 48 = .ok (.iaload, 1) := by decide +kernel
theorem dq_Grp_load_49 : decode kb_Grp_load 49 = .ok (.i2l, 1) := by decide +kernel
theorem dq_Grp_load_50 : decode kb_Grp_load 50 = .ok (.getstatic 55, 3) := by decide +kernel
theorem dq_Grp_load_53 : decode kb_Grp_load 53 = .ok (.iload 4, 2) := by decide +kernel
theorem dq_Grp_load_55 : decode kb_Grp_load 55 = .ok (.bipush 9, 2) := by decide +kernel
theorem dq_Grp_load_57 : decode kb_Grp_load 57 = .ok (.irem, 1) := by decide +kernel
theorem dq_Grp_load_58 : decode kb_Grp_load 58 = .ok (.laload, 1) := by decide +kernel
theorem dq_Grp_load_59 : decode kb_Grp_load 59 = .ok (.lmul, 1) := by decide +kernel
theorem dq_Grp_load_60 : decode kb_Grp_load 60 = .ok (.ladd, 1) := by decide +kernel
theorem dq_Grp_load_61 : decode kb_Grp_load 61 = .ok (.lastore, 1) := by decide +kernel
theorem dq_Grp_load_62 : decode kb_Grp_load 62 = .ok (.iinc 3 1, 3) := by decide +kernel
theorem dq_Grp_load_65 : decode kb_Grp_load 65 = .ok (.goto (-46), 3) := by decide +kernel
theorem dq_Grp_load_68 : decode kb_Grp_load 68 = .ok (.aload_n 0, 1) := by decide +kernel
theorem dq_Grp_load_69 : decode kb_Grp_load 69 = .ok (.iload_n 2, 1) := by decide +kernel
theorem dq_Grp_load_70 : decode kb_Grp_load 70 = .ok (.bipush 9, 2) := by decide +kernel
theorem dq_Grp_load_72 : decode kb_Grp_load 72 = .ok (.idiv, 1) := by decide +kernel
theorem dq_Grp_load_73 : decode kb_Grp_load 73 = .ok (.putfield 15, 3) := by decide +kernel
theorem dq_Grp_load_76 : decode kb_Grp_load 76 = .ok (.aload_n 0, 1) := by decide +kernel
theorem dq_Grp_load_77 : decode kb_Grp_load 77 = .ok (.iload_n 2, 1) := by decide +kernel
theorem dq_Grp_load_78 : decode kb_Grp_load 78 = .ok (.aload_n 1, 1) := by decide +kernel
theorem dq_Grp_load_79 : decode kb_Grp_load 79 = .ok (.getfield 48, 3) := by decide +kernel
theorem dq_Grp_load_82 : decode kb_Grp_load 82 = .ok (.iadd, 1) := by decide +kernel
theorem dq_Grp_load_83 : decode kb_Grp_load 83 = .ok (.iconst 1, 1) := by decide +kernel
theorem dq_Grp_load_84 : decode kb_Grp_load 84 = .ok (.isub, 1) := by decide +kernel
theorem dq_Grp_load_85 : decode kb_Grp_load 85 = .ok (.bipush 9, 2) := by decide +kernel
theorem dq_Grp_load_87 : decode kb_Grp_load 87 = .ok (.idiv, 1) := by decide +kernel
theorem dq_Grp_load_88 : decode kb_Grp_load 88 = .ok (.iconst 1, 1) := by decide +kernel
theorem dq_Grp_load_89 : decode kb_Grp_load 89 = .ok (.iadd, 1) := by decide +kernel
theorem dq_Grp_load_90 : decode kb_Grp_load 90 = .ok (.putfield 19, 3) := by decide +kernel
theorem dq_Grp_load_93 : decode kb_Grp_load 93 = .ok (.return_, 1) := by decide +kernel
theorem dq_Grp_multiply_0 : decode kb_Grp_multiply 0 = .ok (.lconst 0, 1) := by decide +kernel
theorem dq_Grp_multiply_1 : decode kb_Grp_multiply 1 = .ok (.lstore_n 3, 1) := by decide +kernel
theorem dq_Grp_multiply_2 : decode kb_Grp_multiply 2 = .ok (.aload_n 0, 1) := by decide +kernel
theorem dq_Grp_multiply_3 : decode kb_Grp_multiply 3 = .ok (.getfield 19, 3) := by decide +kernel
theorem dq_Grp_multiply_6 : decode kb_Grp_multiply 6 = .ok (.iconst 1, 1) := by decide +kernel
theorem dq_Grp_multiply_7 : decode kb_Grp_multiply 7 = .ok (.isub, 1) := by decide +kernel
theorem dq_Grp_multiply_8 : decode kb_Grp_multiply 8 = .ok (.istore 5, 2) := by decide +kernel
theorem dq_Grp_multiply_10 : decode kb_Grp_multiply 10 = .ok (.iload 5, 2) := by decide +kernel
theorem dq_Grp_multiply_12 : decode kb_Grp_multiply 12 = .ok (.iload_n 1, 1) := by decide +kernel
theorem dq_Grp_multiply_13 : decode kb_Grp_multiply 13 = .ok (.if_icmp .lt 70, 3) := by decide +kernel
theorem dq_Grp_multiply_16 : decode kb_Grp_multiply 16 = .ok (.iload 5, 2) := by decide +kernel
theorem dq_Grp_multiply_18 : decode kb_Grp_multiply 18 = .ok (.aload_n 0, 1) := by decide +kernel
theorem dq_Grp_multiply_19 : decode kb_Grp_multiply 19 = .ok (.getfield 15, 3) := by decide +kernel
theorem dq_Grp_multiply_22 : decode kb_Grp_multiply 22 = .ok (.if_icmp .ge 9, 3) := by decide +kernel
theorem dq_Grp_multiply_25 : decode kb_Grp_multiply 25 = .ok (.lload_n 3, 1) := by decide +kernel
theorem dq_Grp_multiply_26 : decode kb_Grp_multiply 26 = .ok (.lconst 0, 1) := by decide +kernel
theorem dq_Grp_multiply_27 : decode kb_Grp_multiply 27 = .ok (.lcmp, 1) := by decide +kernel
theorem dq_Grp_multiply_28 : decode kb_Grp_multiply 28 = .ok (.ifCond .eq 55, 3) := by decide +kernel
theorem dq_Grp_multiply_31 : decode kb_Grp_multiply 31 = .ok (.aload_n 0, 1) := by decide +kernel
theorem dq_Grp_multiply_32 : decode kb_Grp_multiply 32 = .ok (.getfield 11, 3) := by decide +kernel
theorem dq_Grp_multiply_35 : decode kb_Grp_multiply 35 = .ok (.iload 5, 2) := by decide +kernel
theorem dq_Grp_multiply_37 : decode kb_Grp_multiply 37 = .ok (.laload, 1) := by decide +kernel
theorem dq_Grp_multiply_38 : decode kb_Grp_multiply 38 = .ok (.iload_n 2, 1) := by decide +kernel
theorem dq_Grp_multiply_39 : decode kb_Grp_multiply 39 = .ok (.lshl, 1) := by decide +kernel
theorem dq_Grp_multiply_40 : decode kb_Grp_multiply 40 = .ok (.lload_n 3, 1) := by decide +kernel
theorem dq_Grp_multiply_41 : decode kb_Grp_multiply 41 = .ok (.ladd, 1) := by decide +kernel
theorem dq_Grp_multiply_42 : decode kb_Grp_multiply 42 = .ok (.lstore 6, 2) := by decide +kernel
theorem dq_Grp_multiply_44 : decode kb_Grp_multiply 44 = .ok (.aload_n 0, 1) := by decide +kernel
theorem dq_Grp_multiply_45 : decode kb_Grp_multiply 45 = .ok (.getfield 11, 3) := by decide +kernel
theorem dq_Grp_multiply_48 : decode kb_Grp_multiply 48 = .ok (.iload 5, 2) := by decide +kernel
theorem dq_Grp_multiply_50 : decode kb_Grp_multiply 50 = .ok (.lload 6, 2) := by decide +kernel
theorem dq_Grp_multiply_52 : decode kb_Grp_multiply 52 = .ok (.ldc2_w 28, 3) := by decide +kernel
theorem dq_Grp_multiply_55 : decode kb_Grp_multiply 55 = .ok (.lrem, 1) := by decide +kernel
theorem dq_Grp_multiply_56 : decode kb_Grp_multiply 56 = .ok (.lastore, 1) := by decide +kernel
theorem dq_Grp_multiply_57 : decode kb_Grp_multiply 57 = .ok (.lload 6, 2) := by decide +kernel
theorem dq_Grp_multiply_59 : decode kb_Grp_multiply 59 = .ok (.ldc2_w 28, 3) := by decide +kernel
theorem dq_Grp_multiply_62 : decode kb_Grp_multiply 62 = .ok (.ldiv, 1) := by decide +kernel
theorem dq_Grp_multiply_63 : decode kb_Grp_multiply 63 = .ok (.lstore_n 3, 1) := by decide +kernel
theorem dq_Grp_multiply_64 : decode kb_Grp_multiply 64 = .ok (.aload_n 0, 1) := by decide +kernel
theorem dq_Grp_multiply_65 : decode kb_Grp_multiply 65 = .ok (.aload_n 0, 1) := by decide +kernel
theorem dq_Grp_multiply_66 : decode kb_Grp_multiply 66 = .ok (.getfield 15, 3) := by decide +kernel
theorem dq_Grp_multiply_69 : decode kb_Grp_multiply 69 = .ok (.iload 5, 2) := by decide +kernel
theorem dq_Grp_multiply_71 : decode kb_Grp_multiply 71 = .ok (.invokestatic 30, 3) := by decide +kernel
theorem dq_Grp_multiply_74 : decode kb_Grp_multiply 74 = .ok (.putfield 15, 3) := by decide +kernel
theorem dq_Grp_multiply_77 : decode kb_Grp_multiply 77 = .ok (.iinc 5 (-1), 3) := by decide +kernel
theorem dq_Grp_multiply_80 : decode kb_Grp_multiply 80 = .ok (.goto (-70), 3) := by decide +kernel
theorem dq_Grp_multiply_83 : decode kb_Grp_multiply 83 = .ok (.aload_n 0, 1) := by decide +kernel
theorem dq_Grp_multiply_84 : decode kb_Grp_multiply 84 = .ok (.getfield 19, 3) := by decide +kernel
theorem dq_Grp_multiply_87 : decode kb_Grp_multiply 87 = .ok (.iload_n 1, 1) := by decide +kernel
theorem dq_Grp_multiply_88 : decode kb_Grp_multiply 88 = .ok (.if_icmp .le 32, 3) := by decide +kernel
theorem dq_Grp_multiply_91 : decode kb_Grp_multiply 91 = .ok (.aload_n 0, 1) := by decide +kernel
theorem dq_Grp_multiply_92 : decode kb_Grp_multiply 92 = .ok (.getfield 11, 3) := by decide +kernel
theorem dq_Grp_multiply_95 : decode kb_Grp_multiply 95 = .ok (.aload_n 0, 1) := by decide +kernel
theorem dq_Grp_multiply_96 : decode kb_Grp_multiply 96 = .ok (.getfield 19, 3) := by decide +kernel
theorem dq_Grp_multiply_99 : decode kb_Grp_multiply 99 = .ok (.iconst 1, 1) := by decide +kernel
theorem dq_Grp_multiply_100 : decode kb_Grp_multiply 100 = .ok (.isub, 1) := by decide +kernel
theorem dq_Grp_multiply_101 : decode kb_Grp_multiply 101 = .ok (.laload, 1) := by decide +kernel
theorem dq_Grp_multiply_102 : decode kb_Grp_multiply 102 = .ok (.lconst 0, 1) := by decide +kernel
theorem dq_Grp_multiply_103 : decode kb_Grp_multiply 103 = .ok (.lcmp, 1) := by decide +kernel
theorem dq_Grp_multiply_104 : decode kb_Grp_multiply 104 = .ok (.ifCond .ne 16, 3) := by decide +kernel
theorem dq_Grp_multiply_107 : decode kb_Grp_multiply 107 = .ok (.aload_n 0, 1) := by decide +kernel
theorem dq_Grp_multiply_108 : decode kb_Grp_multiply 108 = .ok (.dup, 1) := by decide +kernel
theorem dq_Grp_multiply_109 : decode kb_Grp_multiply 109 = .ok (.getfield 19, 3) := by decide +kernel
theorem dq_Grp_multiply_112 : decode kb_Grp_multiply 112 = .ok (.iconst 1, 1) := by decide +kernel
theorem dq_Grp_multiply_113 : decode kb_Grp_multiply 113 = .ok (.isub, 1) := by decide +kernel
theorem dq_Grp_multiply_114 : decode kb_Grp_multiply 114 = .ok (.putfield 19, 3) := by decide +kernel
theorem dq_Grp_multiply_117 : decode kb_Grp_multiply 117 = .ok (.goto (-34), 3) := by decide +kernel
theorem dq_Grp_multiply_120 : decode kb_Grp_multiply 120 = .ok (.lload_n 3, 1) := by decide +kernel
theorem dq_Grp_multiply_121 : decode kb_Grp_multiply 121 = .ok (.lreturn, 1) := by decide +kernel
theorem dq_Grp_divide_0 : decode kb_Grp_divide 0 = .ok (.lconst 1, 1) := by decide +kernel
theorem dq_Grp_divide_1 : decode kb_Grp_divide 1 = .ok (.iload_n 2, 1) := by decide +kernel
theorem dq_Grp_divide_2 : decode kb_Grp_divide 2 = .ok (.lshl, 1) := by decide +kernel
theorem dq_Grp_divide_3 : decode kb_Grp_divide 3 = .ok (.lconst 1, 1) := by decide +kernel
theorem dq_Grp_divide_4 : decode kb_Grp_divide 4 = .ok (.lsub, 1) := by decide +kernel
theorem dq_Grp_divide_5 : decode kb_Grp_divide 5 = .ok (.lstore_n 3, 1) := by decide +kernel
theorem dq_Grp_divide_6 : decode kb_Grp_divide 6 = .ok (.lconst 0, 1) := by decide +kernel
theorem dq_Grp_divide_7 : decode kb_Grp_divide 7 = .ok (.lstore 5, 2) := by decide +kernel
theorem dq_Grp_divide_9 : decode kb_Grp_divide 9 = .ok (.aload_n 0, 1) := by decide +kernel
theorem dq_Grp_divide_10 : decode kb_Grp_divide 10 = .ok (.getfield 15, 3) := by decide +kernel
theorem dq_Grp_divide_13 : decode kb_Grp_divide 13 = .ok (.istore 7, 2) := by decide +kernel
theorem dq_Grp_divide_15 : decode kb_Grp_divide 15 = .ok (.iload 7, 2) := by decide +kernel
theorem dq_Grp_divide_17 : decode kb_Grp_divide 17 = .ok (.iload_n 1, 1) := by decide +kernel
theorem dq_Grp_divide_18 : decode kb_Grp_divide 18 = .ok (.if_icmp .ge 73, 3) := by decide +kernel
theorem dq_Grp_divide_21 : decode kb_Grp_divide 21 = .ok (.iload 7, 2) := by decide +kernel
theorem dq_Grp_divide_23 : decode kb_Grp_divide 23 = .ok (.aload_n 0, 1) := by decide +kernel
theorem dq_Grp_divide_24 : decode kb_Grp_divide 24 = .ok (.getfield 19, 3) := by decide +kernel
theorem dq_Grp_divide_27 : decode kb_Grp_divide 27 = .ok (.if_icmp .lt 10, 3) := by decide +kernel
theorem dq_Grp_divide_30 : decode kb_Grp_divide 30 = .ok (.lload 5, 2) := by decide +kernel
theorem dq_Grp_divide_32 : decode kb_Grp_divide 32 = .ok (.lconst 0, 1) := by decide +kernel
theorem dq_Grp_divide_33 : decode kb_Grp_divide 33 = .ok (.lcmp, 1) := by decide +kernel
theorem dq_Grp_divide_34 : decode kb_Grp_divide 34 = .ok (.ifCond .eq 57, 3) := by decide +kernel
theorem dq_Grp_divide_37 : decode kb_Grp_divide 37 = .ok (.lload 5, 2) := by decide +kernel
theorem dq_Grp_divide_39 : decode kb_Grp_divide 39 = .ok (.ldc2_w 28, 3) := by decide +kernel
theorem dq_Grp_divide_42 : decode kb_Grp_divide 42 = .ok (.lmul, 1) := by decide +kernel
theorem dq_Grp_divide_43 : decode kb_Grp_divide 43 = .ok (.aload_n 0, 1) := by decide +kernel
theorem dq_Grp_divide_44 : decode kb_Grp_divide 44 = .ok (.getfield 11, 3) := by decide +kernel
theorem dq_Grp_divide_47 : decode kb_Grp_divide 47 = .ok (.iload 7, 2) := by decide +kernel
theorem dq_Grp_divide_49 : decode kb_Grp_divide 49 = .ok (.laload, 1) := by decide +kernel
theorem dq_Grp_divide_50 : decode kb_Grp_divide 50 = .ok (.ladd, 1) := by decide +kernel
theorem dq_Grp_divide_51 : decode kb_Grp_divide 51 = .ok (.lstore 8, 2) := by decide +kernel
theorem dq_Grp_divide_53 : decode kb_Grp_divide 53 = .ok (.aload_n 0, 1) := by decide +kernel
theorem dq_Grp_divide_54 : decode kb_Grp_divide 54 = .ok (.getfield 11, 3) := by decide +kernel
theorem dq_Grp_divide_57 : decode kb_Grp_divide 57 = .ok (.iload 7, 2) := by decide +kernel
theorem dq_Grp_divide_59 : decode kb_Grp_divide 59 = .ok (.lload 8, 2) := by decide +kernel
theorem dq_Grp_divide_61 : decode kb_Grp_divide 61 = .ok (.iload_n 2, 1) := by decide +kernel
theorem dq_Grp_divide_62 : decode kb_Grp_divide 62 = .ok (.lushr, 1) := by decide +kernel
theorem dq_Grp_divide_63 : decode kb_Grp_divide 63 = .ok (.lastore, 1) := by decide +kernel
theorem dq_Grp_divide_64 : decode kb_Grp_divide 64 = .ok (.lload 8, 2) := by decide +kernel
theorem dq_Grp_divide_66 : decode kb_Grp_divide 66 = .ok (.lload_n 3, 1) := by decide +kernel
theorem dq_Grp_divide_67 : decode kb_Grp_divide 67 = .ok (.land, 1) := by decide +kernel
theorem dq_Grp_divide_68 : decode kb_Grp_divide 68 = .ok (.lstore 5, 2) := by decide +kernel
theorem dq_Grp_divide_70 : decode kb_Grp_divide 70 = .ok (.aload_n 0, 1) := by decide +kernel
theorem dq_Grp_divide_71 : decode kb_Grp_divide 71 = .ok (.aload_n 0, 1) := by decide +kernel
theorem dq_Grp_divide_72 : decode kb_Grp_divide 72 = .ok (.getfield 19, 3) := by decide +kernel
theorem dq_Grp_divide_75 : decode kb_Grp_divide 75 = .ok (.iload 7, 2) := by decide +kernel
theorem dq_Grp_divide_77 : decode kb_Grp_divide 77 = .ok (.iconst 1, 1) := by decide +kernel
theorem dq_Grp_divide_78 : decode kb_Grp_divide 78 = .ok (.iadd, 1) := by decide +kernel
theorem dq_Grp_divide_79 : decode kb_Grp_divide 79 = .ok (.invokestatic 58, 3) := by decide +kernel
theorem dq_Grp_divide_82 : decode kb_Grp_divide 82 = .ok (.putfield 19, 3) := by decide +kernel
theorem dq_Grp_divide_85 : decode kb_Grp_divide 85 = .ok (.iinc 7 1, 3) := by decide +kernel
theorem dq_Grp_divide_88 : decode kb_Grp_divide 88 = .ok (.goto (-73), 3) := by decide +kernel
theorem dq_Grp_divide_91 : decode kb_Grp_divide 91 = .ok (.aload_n 0, 1) := by decide +kernel
theorem dq_Grp_divide_92 : decode kb_Grp_divide 92 = .ok (.getfield 15, 3) := by decide +kernel
theorem dq_Grp_divide_95 : decode kb_Grp_divide 95 = .ok (.iload_n 1, 1) := by decide +kernel
theorem dq_Grp_divide_96 : decode kb_Grp_divide 96 = .ok (.if_icmp .ge 30, 3) := by decide +kernel
theorem dq_Grp_divide_99 : decode kb_Grp_divide 99 = .ok (.aload_n 0, 1) := by decide +kernel
theorem dq_Grp_divide_100 : decode kb_Grp_divide 100 = .ok (.getfield 11, 3) := by decide +kernel
theorem dq_Grp_divide_103 : decode kb_Grp_divide 103 = .ok (.aload_n 0, 1) := by decide +kernel
theorem dq_Grp_divide_104 : decode kb_Grp_divide 104 = .ok (.getfield 15, 3) := by decide +kernel
theorem dq_Grp_divide_107 : decode kb_Grp_divide 107 = .ok (.laload, 1) := by decide +kernel
theorem dq_Grp_divide_108 : decode kb_Grp_divide 108 = .ok (.lconst 0, 1) := by decide +kernel
theorem dq_Grp_divide_109 : decode kb_Grp_divide 109 = .ok (.lcmp, 1) := by decide +kernel
theorem dq_Grp_divide_110 : decode kb_Grp_divide 110 = .ok (.ifCond .ne 16, 3) := by decide +kernel
theorem dq_Grp_divide_113 : decode kb_Grp_divide 113 = .ok (.aload_n 0, 1) := by decide +kernel
theorem dq_Grp_divide_114 : decode kb_Grp_divide 114 = .ok (.dup, 1) := by decide +kernel
theorem dq_Grp_divide_115 : decode kb_Grp_divide 115 = .ok (.getfield 15, 3) := by decide +kernel
theorem dq_Grp_divide_118 : decode kb_Grp_divide 118 = .ok (.iconst 1, 1) := by decide +kernel
theorem dq_Grp_divide_119 : decode kb_Grp_divide 119 = .ok (.iadd, 1) := by decide +kernel
theorem dq_Grp_divide_120 : decode kb_Grp_divide 120 = .ok (.putfield 15, 3) := by decide +kernel
theorem dq_Grp_divide_123 : decode kb_Grp_divide 123 = .ok (.goto (-32), 3) := by decide +kernel
theorem dq_Grp_divide_126 : decode kb_Grp_divide 126 = .ok (.lload 5, 2) := by decide +kernel
theorem dq_Grp_divide_128 : decode kb_Grp_divide 128 = .ok (.lreturn, 1) := by decide +kernel
end
section
theorem dq_Tru_init_0 : decode kb_Tru_init 0 = .ok (.aload_n 0, 1) := by decide +kernel
theorem dq_Tru_init_1 : decode kb_Tru_init 1 = .ok (.invokespecial 3, 3) := by decide +kernel
theorem dq_Tru_init_4 : decode kb_Tru_init 4 = .ok (.aload_n 0, 1) := by decide +kernel
theorem dq_Tru_init_5 : decode kb_Tru_init 5 = .ok (.new 9, 3) := by decide +kernel
theorem dq_Tru_init_8 : decode kb_Tru_init 8 = .ok (.dup, 1) := by decide +kernel
theorem dq_Tru_init_9 : decode kb_Tru_init 9 = .ok (.invokespecial 11, 3) := by decide +kernel
theorem dq_Tru_init_12 : decode kb_Tru_init 12 = .ok (.putfield 12, 3) := by decide +kernel
theorem dq_Tru_init_15 : decode kb_Tru_init 15 = .ok (.aload_n 0, 1) := by decide +kernel
theorem dq_Tru_init_16 : decode kb_Tru_init 16 = .ok (.new 16, 3) := by decide +kernel
theorem dq_Tru_init_19 : decode kb_Tru_init 19 = .ok (.dup, 1) := by decide +kernel
theorem dq_Tru_init_20 : decode kb_Tru_init 20 = .ok (.invokespecial 18, 3) := by decide +kernel
theorem dq_Tru_init_23 : decode kb_Tru_init 23 = .ok (.putfield 19, 3) := by decide +kernel
theorem dq_Tru_init_26 : decode kb_Tru_init 26 = .ok (.aload_n 0, 1) := by decide +kernel
theorem dq_Tru_init_27 : decode kb_Tru_init 27 = .ok (.new 23, 3) := by decide +kernel
theorem dq_Tru_init_30 : decode kb_Tru_init 30 = .ok (.dup, 1) := by decide +kernel
theorem dq_Tru_init_31 : decode kb_Tru_init 31 = .ok (.invokespecial 25, 3) := by decide +kernel
theorem dq_Tru_init_34 : decode kb_Tru_init 34 = .ok (.putfield 26, 3) := by decide +kernel
theorem dq_Tru_init_37 : decode kb_Tru_init 37 = .ok (.aload_n 0, 1) := by decide +kernel
theorem dq_Tru_init_38 : decode kb_Tru_init 38 = .ok (.new 9, 3) := by decide +kernel
theorem dq_Tru_init_41 : decode kb_Tru_init 41 = .ok (.dup, 1) := by decide +kernel
theorem dq_Tru_init_42 : decode kb_Tru_init 42 = .ok (.invokespecial 11, 3) := by decide +kernel
theorem dq_Tru_init_45 : decode kb_Tru_init 45 = .ok (.putfield 30, 3) := by decide +kernel
theorem dq_Tru_init_48 : decode kb_Tru_init 48 = .ok (.aload_n 0, 1) := by decide +kernel
theorem dq_Tru_init_49 : decode kb_Tru_init 49 = .ok (.new 9, 3) := by decide +kernel
theorem dq_Tru_init_52 : decode kb_Tru_init 52 = .ok (.dup, 1) := by decide +kernel
theorem dq_Tru_init_53 : decode kb_Tru_init 53 = .ok (.invokespecial 11, 3) := by decide +kernel
theorem dq_Tru_init_56 : decode kb_Tru_init 56 = .ok (.putfield 33, 3) := by decide +kernel
theorem dq_Tru_init_59 : decode kb_Tru_init 59 = .ok (.aload_n 0, 1) := by decide +kernel
theorem dq_Tru_init_60 : decode kb_Tru_init 60 = .ok (.new 9, 3) := by decide +kernel
theorem dq_Tru_init_63 : decode kb_Tru_init 63 = .ok (.dup, 1) := by decide +kernel
theorem dq_Tru_init_64 : decode kb_Tru_init 64 = .ok (.invokespecial 11, 3) := by decide +kernel
theorem dq_Tru_init_67 : decode kb_Tru_init 67 = .ok (.putfield 36, 3) := by decide +kernel
theorem dq_Tru_init_70 : decode kb_Tru_init 70 = .ok (.return_, 1) := by decide +kernel
theorem dq_Tru_set_0 : decode kb_Tru_set 0 = .ok (.lload_n 1, 1) := by decide +kernel
theorem dq_Tru_set_1 : decode kb_Tru_set 1 = .ok (.ldc2_w 39, 3) := by decide +kernel
theorem dq_Tru_set_4 : decode kb_Tru_set 4 = .ok (.land, 1) := by decide +kernel
theorem dq_Tru_set_5 : decode kb_Tru_set 5 = .ok (.lstore_n 3, 1) := by decide +kernel
theorem dq_Tru_set_6 : decode kb_Tru_set 6 = .ok (.lload_n 3, 1) := by decide +kernel
theorem dq_Tru_set_7 : decode kb_Tru_set 7 = .ok (.ldc2_w 41, 3) := by decide +kernel
theorem dq_Tru_set_10 : decode kb_Tru_set 10 = .ok (.lcmp, 1) := by decide +kernel
theorem dq_Tru_set_11 : decode kb_Tru_set 11 = .ok (.ifCond .lt 13, 3) := by decide +kernel
theorem dq_Tru_set_14 : decode kb_Tru_set 14 = .ok (.new 43, 3) := by decide +kernel
theorem dq_Tru_set_17 : decode kb_Tru_set 17 = .ok (.dup, 1) := by decide +kernel
theorem dq_Tru_set_18 : decode kb_Tru_set 18 = .ok (.ldc 45, 2) := by decide +kernel
theorem dq_Tru_set_20 : decode kb_Tru_set 20 = .ok (.invokespecial 47, 3) := by decide +kernel
theorem dq_Tru_set_23 : decode kb_Tru_set 23 = .ok (.athrow, 1) := by decide +kernel
theorem dq_Tru_set_24 : decode kb_Tru_set 24 = .ok (.aload_n 0, 1) := by decide +kernel
theorem dq_Tru_set_25 : decode kb_Tru_set 25 = .ok (.lload_n 1, 1) := by decide +kernel
theorem dq_Tru_set_26 : decode kb_Tru_set 26 = .ok (.lconst 0, 1) := by decide +kernel
theorem dq_Tru_set_27 : decode kb_Tru_set 27 = .ok (.lcmp, 1) := by decide +kernel
theorem dq_Tru_set_28 : decode kb_Tru_set 28 = .ok (.ifCond .ge 7, 3) := by decide +kernel
theorem dq_Tru_set_31 : decode kb_Tru_set 31 = .ok (.iconst 1, 1) := by decide +kernel
theorem dq_Tru_set_32 : decode kb_Tru_set 32 = .ok (.goto 4, 3) := by decide +kernel
theorem dq_Tru_set_35 : decode kb_Tru_set 35 = .ok (.iconst 0, 1) := by decide +kernel
theorem dq_Tru_set_36 : decode kb_Tru_set 36 = .ok (.putfield 50, 3) := by decide +kernel
theorem dq_Tru_set_39 : decode kb_Tru_set 39 = .ok (.aload_n 0, 1) := by decide +kernel
theorem dq_Tru_set_40 : decode kb_Tru_set 40 = .ok (.lload_n 3, 1) := by decide +kernel
theorem dq_Tru_set_41 : decode kb_Tru_set 41 = .ok (.invokestatic 54, 3) := by decide +kernel
theorem dq_Tru_set_44 : decode kb_Tru_set 44 = .ok (.lload_n 3, 1) := by decide +kernel
theorem dq_Tru_set_45 : decode kb_Tru_set 45 = .ok (.invokestatic 58, 3) := by decide +kernel
theorem dq_Tru_set_48 : decode kb_Tru_set 48 = .ok (.aload_n 0, 1) := by decide +kernel
theorem dq_Tru_set_49 : decode kb_Tru_set 49 = .ok (.getfield 12, 3) := by decide +kernel
theorem dq_Tru_set_52 : decode kb_Tru_set 52 = .ok (.invokevirtual 62, 3) := by decide +kernel
theorem dq_Tru_set_55 : decode kb_Tru_set 55 = .ok (.aload_n 0, 1) := by decide +kernel
theorem dq_Tru_set_56 : decode kb_Tru_set 56 = .ok (.invokevirtual 66, 3) := by decide +kernel
theorem dq_Tru_set_59 : decode kb_Tru_set 59 = .ok (.aload_n 0, 1) := by decide +kernel
theorem dq_Tru_set_60 : decode kb_Tru_set 60 = .ok (.getfield 12, 3) := by decide +kernel
theorem dq_Tru_set_63 : decode kb_Tru_set 63 = .ok (.getfield 69, 3) := by decide +kernel
theorem dq_Tru_set_66 : decode kb_Tru_set 66 = .ok (.ireturn, 1) := by decide +kernel
theorem dq_Tru_digit_0 : decode kb_Tru_digit 0 = .ok (.iload_n 1, 1) := by decide +kernel
theorem dq_Tru_digit_1 : decode kb_Tru_digit 1 = .ok (.ifCond .lt 9, 3) := by decide +kernel
theorem dq_Tru_digit_4 : decode kb_Tru_digit 4 = .ok (.iload_n 1, 1) := by decide +kernel
theorem dq_Tru_digit_5 : decode kb_Tru_digit 5 = .ok (.bipush 9, 2) := by decide +kernel
theorem dq_Tru_digit_7 : decode kb_Tru_digit 7 = .ok (.if_icmp .le 13, 3) := by decide +kernel
theorem dq_Tru_digit_10 : decode kb_Tru_digit 10 = .ok (.new 43, 3) := by decide +kernel
theorem dq_Tru_digit_13 : decode kb_Tru_digit 13 = .ok (.dup, 1) := by decide +kernel
theorem dq_Tru_digit_14 : decode kb_Tru_digit 14 = .ok (.ldc 73, 2) := by decide +kernel
theorem dq_Tru_digit_16 : decode kb_Tru_digit 16 = .ok (.invokespecial 47, 3) := by decide +kernel
theorem dq_Tru_digit_19 : decode kb_Tru_digit 19 = .ok (.athrow, 1) := by decide +kernel
theorem dq_Tru_digit_20 : decode kb_Tru_digit 20 = .ok (.aload_n 0, 1) := by decide +kernel
theorem dq_Tru_digit_21 : decode kb_Tru_digit 21 = .ok (.iload_n 1, 1) := by decide +kernel
theorem dq_Tru_digit_22 : decode kb_Tru_digit 22 = .ok (.invokevirtual 75, 3) := by decide +kernel
theorem dq_Tru_digit_25 : decode kb_Tru_digit 25 = .ok (.ifCond .eq 13, 3) := by decide +kernel
theorem dq_Tru_digit_28 : decode kb_Tru_digit 28 = .ok (.new 79, 3) := by decide +kernel
theorem dq_Tru_digit_31 : decode kb_Tru_digit 31 = .ok (.dup, 1) := by decide +kernel
theorem dq_Tru_digit_32 : decode kb_Tru_digit 32 = .ok (.ldc 81, 2) := by decide +kernel
theorem dq_Tru_digit_34 : decode kb_Tru_digit 34 = .ok (.invokespecial 83, 3) := by decide +kernel
theorem dq_Tru_digit_37 : decode kb_Tru_digit 37 = .ok (.athrow, 1) := by decide +kernel
theorem dq_Tru_digit_38 : decode kb_Tru_digit 38 = .ok (.iload_n 1, 1) := by decide +kernel
theorem dq_Tru_digit_39 : decode kb_Tru_digit 39 = .ok (.ifCond .eq 11, 3) := by decide +kernel
theorem dq_Tru_digit_42 : decode kb_Tru_digit 42 = .ok (.aload_n 0, 1) := by decide +kernel
theorem dq_Tru_digit_43 : decode kb_Tru_digit 43 = .ok (.iload_n 1, 1) := by decide +kernel
theorem dq_Tru_digit_44 : decode kb_Tru_digit 44 = .ok (.invokevirtual 84, 3) := by decide +kernel
theorem dq_Tru_digit_47 : decode kb_Tru_digit 47 = .ok (.goto 36, 3) := by decide +kernel
theorem dq_Tru_digit_50 : decode kb_Tru_digit 50 = .ok (.aload_n 0, 1) := by decide +kernel
theorem dq_Tru_digit_51 : decode kb_Tru_digit 51 = .ok (.getfield 12, 3) := by decide +kernel
theorem dq_Tru_digit_54 : decode kb_Tru_digit 54 = .ok (.getfield 69, 3) := by decide +kernel
theorem dq_Tru_digit_57 : decode kb_Tru_digit 57 = .ok (.ifCond .ne 16, 3) := by decide +kernel
theorem dq_Tru_digit_60 : decode kb_Tru_digit 60 = .ok (.aload_n 0, 1) := by decide +kernel
theorem dq_Tru_digit_61 : decode kb_Tru_digit 61 = .ok (.dup, 1) := by decide +kernel
theorem dq_Tru_digit_62 : decode kb_Tru_digit 62 = .ok (.getfield 88, 3) := by decide +kernel
theorem dq_Tru_digit_65 : decode kb_Tru_digit 65 = .ok (.iconst 1, 1) := by decide +kernel
theorem dq_Tru_digit_66 : decode kb_Tru_digit 66 = .ok (.isub, 1) := by decide +kernel
theorem dq_Tru_digit_67 : decode kb_Tru_digit 67 = .ok (.putfield 88, 3) := by decide +kernel
theorem dq_Tru_digit_70 : decode kb_Tru_digit 70 = .ok (.goto 13, 3) := by decide +kernel
theorem dq_Tru_digit_73 : decode kb_Tru_digit 73 = .ok (.aload_n 0, 1) := by decide +kernel
theorem dq_Tru_digit_74 : decode kb_Tru_digit 74 = .ok (.dup, 1) := by decide +kernel
theorem dq_Tru_digit_75 : decode kb_Tru_digit 75 = .ok (.getfield 91, 3) := by decide +kernel
theorem dq_Tru_digit_78 : decode kb_Tru_digit 78 = .ok (.iconst 1, 1) := by decide +kernel
theorem dq_Tru_digit_79 : decode kb_Tru_digit 79 = .ok (.iadd, 1) := by decide +kernel
theorem dq_Tru_digit_80 : decode kb_Tru_digit 80 = .ok (.putfield 91, 3) := by decide +kernel
theorem dq_Tru_digit_83 : decode kb_Tru_digit 83 = .ok (.aload_n 0, 1) := by decide +kernel
theorem dq_Tru_digit_84 : decode kb_Tru_digit 84 = .ok (.getfield 12, 3) := by decide +kernel
theorem dq_Tru_digit_87 : decode kb_Tru_digit 87 = .ok (.getfield 69, 3) := by decide +kernel
theorem dq_Tru_digit_90 : decode kb_Tru_digit 90 = .ok (.ireturn, 1) := by decide +kernel
theorem dq_Tru_clear_0 : decode kb_Tru_clear 0 = .ok (.iload_n 2, 1) := by decide +kernel
theorem dq_Tru_clear_1 : decode kb_Tru_clear 1 = .ok (.sipush (-1000), 3) := by decide +kernel
theorem dq_Tru_clear_4 : decode kb_Tru_clear 4 = .ok (.if_icmp .lt 10, 3) := by decide +kernel
theorem dq_Tru_clear_7 : decode kb_Tru_clear 7 = .ok (.iload_n 2, 1) := by decide +kernel
theorem dq_Tru_clear_8 : decode kb_Tru_clear 8 = .ok (.sipush 1000, 3) := by decide +kernel
theorem dq_Tru_clear_11 : decode kb_Tru_clear 11 = .ok (.if_icmp .le 13, 3) := by decide +kernel
theorem dq_Tru_clear_14 : decode kb_Tru_clear 14 = .ok (.new 43, 3) := by decide +kernel
theorem dq_Tru_clear_17 : decode kb_Tru_clear 17 = .ok (.dup, 1) := by decide +kernel
theorem dq_Tru_clear_18 : decode kb_Tru_clear 18 = .ok (.ldc 94, 2) := by decide +kernel
theorem dq_Tru_clear_20 : decode kb_Tru_clear 20 = .ok (.invokespecial 47, 3) := by decide +kernel
theorem dq_Tru_clear_23 : decode kb_Tru_clear 23 = .ok (.athrow, 1) := by decide +kernel
theorem dq_Tru_clear_24 : decode kb_Tru_clear 24 = .ok (.aload_n 0, 1) := by decide +kernel
theorem dq_Tru_clear_25 : decode kb_Tru_clear 25 = .ok (.iload_n 1, 1) := by decide +kernel
theorem dq_Tru_clear_26 : decode kb_Tru_clear 26 = .ok (.putfield 50, 3) := by decide +kernel
theorem dq_Tru_clear_29 : decode kb_Tru_clear 29 = .ok (.aload_n 0, 1) := by decide +kernel
theorem dq_Tru_clear_30 : decode kb_Tru_clear 30 = .ok (.getfield 12, 3) := by decide +kernel
theorem dq_Tru_clear_33 : decode kb_Tru_clear 33 = .ok (.invokevirtual 96, 3) := by decide +kernel
theorem dq_Tru_clear_36 : decode kb_Tru_clear 36 = .ok (.aload_n 0, 1) := by decide +kernel
theorem dq_Tru_clear_37 : decode kb_Tru_clear 37 = .ok (.invokevirtual 66, 3) := by decide +kernel
theorem dq_Tru_clear_40 : decode kb_Tru_clear 40 = .ok (.aload_n 0, 1) := by decide +kernel
theorem dq_Tru_clear_41 : decode kb_Tru_clear 41 = .ok (.iload_n 2, 1) := by decide +kernel
theorem dq_Tru_clear_42 : decode kb_Tru_clear 42 = .ok (.putfield 88, 3) := by decide +kernel
theorem dq_Tru_clear_45 : decode kb_Tru_clear 45 = .ok (.return_, 1) := by decide +kernel
theorem dq_Tru_round_0 : decode kb_Tru_round 0 = .ok (.iload_n 1, 1) := by decide +kernel
theorem dq_Tru_round_1 : decode kb_Tru_round 1 = .ok (.ifCond .lt 10, 3) := by decide +kernel
theorem dq_Tru_round_4 : decode kb_Tru_round 4 = .ok (.iload_n 1, 1) := by decide +kernel
theorem dq_Tru_round_5 : decode kb_Tru_round 5 = .ok (.sipush 800, 3) := by decide +kernel
theorem dq_Tru_round_8 : decode kb_Tru_round 8 = .ok (.if_icmp .le 13, 3) := by decide +kernel
theorem dq_Tru_round_11 : decode kb_Tru_round 11 = .ok (.new 43, 3) := by decide +kernel
theorem dq_Tru_round_14 : decode kb_Tru_round 14 = .ok (.dup, 1) := by decide +kernel
theorem dq_Tru_round_15 : decode kb_Tru_round 15 = .ok (.ldc 99, 2) := by decide +kernel
theorem dq_Tru_round_17 : decode kb_Tru_round 17 = .ok (.invokespecial 47, 3) := by decide +kernel
theorem dq_Tru_round_20 : decode kb_Tru_round 20 = .ok (.athrow, 1) := by decide +kernel
theorem dq_Tru_round_21 : decode kb_Tru_round 21 = .ok (.aload_n 0, 1) := by decide +kernel
theorem dq_Tru_round_22 : decode kb_Tru_round 22 = .ok (.iload_n 1, 1) := by decide +kernel
theorem dq_Tru_round_23 : decode kb_Tru_round 23 = .ok (.invokevirtual 101, 3) := by decide +kernel
theorem dq_Tru_round_26 : decode kb_Tru_round 26 = .ok (.aload_n 0, 1) := by decide +kernel
theorem dq_Tru_round_27 : decode kb_Tru_round 27 = .ok (.getfield 12, 3) := by decide +kernel
theorem dq_Tru_round_30 : decode kb_Tru_round 30 = .ok (.getfield 69, 3) := by decide +kernel
theorem dq_Tru_round_33 : decode kb_Tru_round 33 = .ok (.ireturn, 1) := by decide +kernel
theorem dq_Tru_places_0 : decode kb_Tru_places 0 = .ok (.iload_n 1, 1) := by decide +kernel
theorem dq_Tru_places_1 : decode kb_Tru_places 1 = .ok (.sipush (-1000), 3) := by decide +kernel
theorem dq_Tru_places_4 : decode kb_Tru_places 4 = .ok (.if_icmp .lt 10, 3) := by decide +kernel
theorem dq_Tru_places_7 : decode kb_Tru_places 7 = .ok (.iload_n 1, 1) := by decide +kernel
theorem dq_Tru_places_8 : decode kb_Tru_places 8 = .ok (.sipush 2000, 3) := by decide +kernel
theorem dq_Tru_places_11 : decode kb_Tru_places 11 = .ok (.if_icmp .le 13, 3) := by decide +kernel
theorem dq_Tru_places_14 : decode kb_Tru_places 14 = .ok (.new 43, 3) := by decide +kernel
theorem dq_Tru_places_17 : decode kb_Tru_places 17 = .ok (.dup, 1) := by decide +kernel
theorem dq_Tru_places_18 : decode kb_Tru_places 18 = .ok (.ldc 104, 2) := by decide +kernel
theorem dq_Tru_places_20 : decode kb_Tru_places 20 = .ok (.invokespecial 47, 3) := by decide +kernel
theorem dq_Tru_places_23 : decode kb_Tru_places 23 = .ok (.athrow, 1) := by decide +kernel
theorem dq_Tru_places_24 : decode kb_Tru_places 24 = .ok (.aload_n 0, 1) := by decide +kernel
theorem dq_Tru_places_25 : decode kb_Tru_places 25 = .ok (.getfield 12, 3) := by decide +kernel
theorem dq_Tru_places_28 : decode kb_Tru_places 28 = .ok (.aload_n 0, 1) := by decide +kernel
theorem dq_Tru_places_29 : decode kb_Tru_places 29 = .ok (.getfield 12, 3) := by decide +kernel
theorem dq_Tru_places_32 : decode kb_Tru_places 32 = .ok (.getfield 106, 3) := by decide +kernel
theorem dq_Tru_places_35 : decode kb_Tru_places 35 = .ok (.iload_n 1, 1) := by decide +kernel
theorem dq_Tru_places_36 : decode kb_Tru_places 36 = .ok (.iadd, 1) := by decide +kernel
theorem dq_Tru_places_37 : decode kb_Tru_places 37 = .ok (.invokevirtual 109, 3) := by decide +kernel
theorem dq_Tru_places_40 : decode kb_Tru_places 40 = .ok (.aload_n 0, 1) := by decide +kernel
theorem dq_Tru_places_41 : decode kb_Tru_places 41 = .ok (.invokevirtual 66, 3) := by decide +kernel
theorem dq_Tru_places_44 : decode kb_Tru_places 44 = .ok (.aload_n 0, 1) := by decide +kernel
theorem dq_Tru_places_45 : decode kb_Tru_places 45 = .ok (.getfield 12, 3) := by decide +kernel
theorem dq_Tru_places_48 : decode kb_Tru_places 48 = .ok (.getfield 69, 3) := by decide +kernel
theorem dq_Tru_places_51 : decode kb_Tru_places 51 = .ok (.ireturn, 1) := by decide +kernel
theorem dq_Tru_nearest_0 : decode kb_Tru_nearest 0 = .ok (.aload_n 0, 1) := by decide +kernel
theorem dq_Tru_nearest_1 : decode kb_Tru_nearest 1 = .ok (.invokevirtual 112, 3) := by decide +kernel
theorem dq_Tru_nearest_4 : decode kb_Tru_nearest 4 = .ok (.lstore_n 1, 1) := by decide +kernel
theorem dq_Tru_nearest_5 : decode kb_Tru_nearest 5 = .ok (.lload_n 1, 1) := by decide +kernel
theorem dq_Tru_nearest_6 : decode kb_Tru_nearest 6 = .ok (.ldc2_w 41, 3) := by decide +kernel
theorem dq_Tru_nearest_9 : decode kb_Tru_nearest 9 = .ok (.lcmp, 1) := by decide +kernel
theorem dq_Tru_nearest_10 : decode kb_Tru_nearest 10 = .ok (.ifCond .lt 13, 3) := by decide +kernel
theorem dq_Tru_nearest_13 : decode kb_Tru_nearest 13 = .ok (.new 116, 3) := by decide +kernel
theorem dq_Tru_nearest_16 : decode kb_Tru_nearest 16 = .ok (.dup, 1) := by decide +kernel
theorem dq_Tru_nearest_17 : decode kb_Tru_nearest 17 = .ok (.ldc 118, 2) := by decide +kernel
theorem dq_Tru_nearest_19 : decode kb_Tru_nearest 19 = .ok (.invokespecial 120, 3) := by decide +kernel
theorem dq_Tru_nearest_22 : decode kb_Tru_nearest 22 = .ok (.athrow, 1) := by decide +kernel
theorem dq_Tru_nearest_23 : decode kb_Tru_nearest 23 = .ok (.aload_n 0, 1) := by decide +kernel
theorem dq_Tru_nearest_24 : decode kb_Tru_nearest 24 = .ok (.getfield 50, 3) := by decide +kernel
theorem dq_Tru_nearest_27 : decode kb_Tru_nearest 27 = .ok (.ifCond .eq 11, 3) := by decide +kernel
theorem dq_Tru_nearest_30 : decode kb_Tru_nearest 30 = .ok (.lload_n 1, 1) := by decide +kernel
theorem dq_Tru_nearest_31 : decode kb_Tru_nearest 31 = .ok (.ldc2_w 121, 3) := by decide +kernel
theorem dq_Tru_nearest_34 : decode kb_Tru_nearest 34 = .ok (.lor, 1) := by decide +kernel
theorem dq_Tru_nearest_35 : decode kb_Tru_nearest 35 = .ok (.goto 4, 3) := by decide +kernel
theorem dq_Tru_nearest_38 : decode kb_Tru_nearest 38 = .ok (.lload_n 1, 1) := by decide +kernel
theorem dq_Tru_nearest_39 : decode kb_Tru_nearest 39 = .ok (.lreturn, 1) := by decide +kernel
theorem dq_Tru_enough_0 : decode kb_Tru_enough 0 = .ok (.aload_n 0, 1) := by decide +kernel
theorem dq_Tru_enough_1 : decode kb_Tru_enough 1 = .ok (.invokevirtual 112, 3) := by decide +kernel
theorem dq_Tru_enough_4 : decode kb_Tru_enough 4 = .ok (.lstore_n 1, 1) := by decide +kernel
theorem dq_Tru_enough_5 : decode kb_Tru_enough 5 = .ok (.lload_n 1, 1) := by decide +kernel
theorem dq_Tru_enough_6 : decode kb_Tru_enough 6 = .ok (.ldc2_w 41, 3) := by decide +kernel
theorem dq_Tru_enough_9 : decode kb_Tru_enough 9 = .ok (.lcmp, 1) := by decide +kernel
theorem dq_Tru_enough_10 : decode kb_Tru_enough 10 = .ok (.ifCond .lt 13, 3) := by decide +kernel
theorem dq_Tru_enough_13 : decode kb_Tru_enough 13 = .ok (.new 116, 3) := by decide +kernel
theorem dq_Tru_enough_16 : decode kb_Tru_enough 16 = .ok (.dup, 1) := by decide +kernel
theorem dq_Tru_enough_17 : decode kb_Tru_enough 17 = .ok (.ldc 118, 2) := by decide +kernel
theorem dq_Tru_enough_19 : decode kb_Tru_enough 19 = .ok (.invokespecial 120, 3) := by decide +kernel
theorem dq_Tru_enough_22 : decode kb_Tru_enough 22 = .ok (.athrow, 1) := by decide +kernel
theorem dq_Tru_enough_23 : decode kb_Tru_enough 23 = .ok (.lload_n 1, 1) := by decide +kernel
theorem dq_Tru_enough_24 : decode kb_Tru_enough 24 = .ok (.lconst 0, 1) := by decide +kernel
theorem dq_Tru_enough_25 : decode kb_Tru_enough 25 = .ok (.lcmp, 1) := by decide +kernel
theorem dq_Tru_enough_26 : decode kb_Tru_enough 26 = .ok (.ifCond .ne 7, 3) := by decide +kernel
theorem dq_Tru_enough_29 : decode kb_Tru_enough 29 = .ok (.iconst 0, 1) := by decide +kernel
theorem dq_Tru_enough_30 : decode kb_Tru_enough 30 = .ok (.goto 8, 3) := by decide +kernel
theorem dq_Tru_enough_33 : decode kb_Tru_enough 33 = .ok (.aload_n 0, 1) := by decide +kernel
theorem dq_Tru_enough_34 : decode kb_Tru_enough 34 = .ok (.lload_n 1, 1) := by decide +kernel
theorem dq_Tru_enough_35 : decode kb_Tru_enough 35 = .ok (.invokevirtual 123, 3) := by decide +kernel
theorem dq_Tru_enough_38 : decode kb_Tru_enough 38 = .ok (.istore_n 3, 1) := by decide +kernel
theorem dq_Tru_enough_39 : decode kb_Tru_enough 39 = .ok (.aload_n 0, 1) := by decide +kernel
theorem dq_Tru_enough_40 : decode kb_Tru_enough 40 = .ok (.iload_n 3, 1) := by decide +kernel
theorem dq_Tru_enough_41 : decode kb_Tru_enough 41 = .ok (.invokevirtual 101, 3) := by decide +kernel
theorem dq_Tru_enough_44 : decode kb_Tru_enough 44 = .ok (.iload_n 3, 1) := by decide +kernel
theorem dq_Tru_enough_45 : decode kb_Tru_enough 45 = .ok (.ireturn, 1) := by decide +kernel
theorem dq_Tru_look_0 : decode kb_Tru_look 0 = .ok (.iload_n 1, 1) := by decide +kernel
theorem dq_Tru_look_1 : decode kb_Tru_look 1 = .ok (.ifCond .lt 14, 3) := by decide +kernel
theorem dq_Tru_look_4 : decode kb_Tru_look 4 = .ok (.iload_n 1, 1) := by decide +kernel
theorem dq_Tru_look_5 : decode kb_Tru_look 5 = .ok (.aload_n 0, 1) := by decide +kernel
theorem dq_Tru_look_6 : decode kb_Tru_look 6 = .ok (.getfield 12, 3) := by decide +kernel
theorem dq_Tru_look_9 : decode kb_Tru_look 9 = .ok (.getfield 69, 3) := by decide +kernel
theorem dq_Tru_look_12 : decode kb_Tru_look 12 = .ok (.if_icmp .lt 13, 3) := by decide +kernel
theorem dq_Tru_look_15 : decode kb_Tru_look 15 = .ok (.new 79, 3) := by decide +kernel
theorem dq_Tru_look_18 : decode kb_Tru_look 18 = .ok (.dup, 1) := by decide +kernel
theorem dq_Tru_look_19 : decode kb_Tru_look 19 = .ok (.ldc 126, 2) := by decide +kernel
theorem dq_Tru_look_21 : decode kb_Tru_look 21 = .ok (.invokespecial 83, 3) := by decide +kernel
theorem dq_Tru_look_24 : decode kb_Tru_look 24 = .ok (.athrow, 1) := by decide +kernel
theorem dq_Tru_look_25 : decode kb_Tru_look 25 = .ok (.aload_n 0, 1) := by decide +kernel
theorem dq_Tru_look_26 : decode kb_Tru_look 26 = .ok (.getfield 12, 3) := by decide +kernel
theorem dq_Tru_look_29 : decode kb_Tru_look 29 = .ok (.getfield 128, 3) := by decide +kernel
theorem dq_Tru_look_32 : decode kb_Tru_look 32 = .ok (.iload_n 1, 1) := by decide +kernel
theorem dq_Tru_look_33 : decode kb_Tru_look 33 = .ok (.iaload, 1) := by decide +kernel
theorem dq_Tru_look_34 : decode kb_Tru_look 34 = .ok (.ireturn, 1) := by decide +kernel
theorem dq_Tru_count_0 : decode kb_Tru_count 0 = .ok (.iload_n 1, 1) := by decide +kernel
theorem dq_Tru_count_1 : decode kb_Tru_count 1 = .ok (.tableswitch 56 0 2 #[27, 35, 43], 27) := by decide +kernel
theorem dq_Tru_count_28 : decode kb_Tru_count 28 = .ok (.aload_n 0, 1) := by decide +kernel
theorem dq_Tru_count_29 : decode kb_Tru_count 29 = .ok (.getfield 12, 3) := by decide +kernel
theorem dq_Tru_count_32 : decode kb_Tru_count 32 = .ok (.getfield 69, 3) := by decide +kernel
theorem dq_Tru_count_35 : decode kb_Tru_count 35 = .ok (.ireturn, 1) := by decide +kernel
theorem dq_Tru_count_36 : decode kb_Tru_count 36 = .ok (.aload_n 0, 1) := by decide +kernel
theorem dq_Tru_count_37 : decode kb_Tru_count 37 = .ok (.getfield 12, 3) := by decide +kernel
theorem dq_Tru_count_40 : decode kb_Tru_count 40 = .ok (.getfield 106, 3) := by decide +kernel
theorem dq_Tru_count_43 : decode kb_Tru_count 43 = .ok (.ireturn, 1) := by decide +kernel
theorem dq_Tru_count_44 : decode kb_Tru_count 44 = .ok (.aload_n 0, 1) := by decide +kernel
theorem dq_Tru_count_45 : decode kb_Tru_count 45 = .ok (.getfield 50, 3) := by decide +kernel
theorem dq_Tru_count_48 : decode kb_Tru_count 48 = .ok (.ifCond .eq 7, 3) := by decide +kernel
theorem dq_Tru_count_51 : decode kb_Tru_count 51 = .ok (.iconst 1, 1) := by decide +kernel
theorem dq_Tru_count_52 : decode kb_Tru_count 52 = .ok (.goto 4, 3) := by decide +kernel
theorem dq_Tru_count_55 : decode kb_Tru_count 55 = .ok (.iconst 0, 1) := by decide +kernel
theorem dq_Tru_count_56 : decode kb_Tru_count 56 = .ok (.ireturn, 1) := by decide +kernel
theorem dq_Tru_count_57 : decode kb_Tru_count 57 = .ok (.new 43, 3) := by decide +kernel
theorem dq_Tru_count_60 : decode kb_Tru_count 60 = .ok (.dup, 1) := by decide +kernel
theorem dq_Tru_count_61 : decode kb_Tru_count 61 = .ok (.ldc 132, 2) := by decide +kernel
theorem dq_Tru_count_63 : decode kb_Tru_count 63 = .ok (.invokespecial 47, 3) := by decide +kernel
theorem dq_Tru_count_66 : decode kb_Tru_count 66 = .ok (.athrow, 1) := by decide +kernel
theorem dq_Tru_hasNoRoomFor_0 : decode kb_Tru_hasNoRoomFor 0 = .ok (.aload_n 0, 1) := by decide +kernel
theorem dq_Tru_hasNoRoomFor_1 : decode kb_Tru_hasNoRoomFor 1 = .ok (.getfield 12, 3) := by decide +kernel
theorem dq_Tru_hasNoRoomFor_4 : decode kb_Tru_hasNoRoomFor 4 = .ok (.getfield 69, 3) := by decide +kernel
theorem dq_Tru_hasNoRoomFor_7 : decode kb_Tru_hasNoRoomFor 7 = .ok (.ifCond .ne 23, 3) := by decide +kernel
theorem dq_Tru_hasNoRoomFor_10 : decode kb_Tru_hasNoRoomFor 10 = .ok (.iload_n 1, 1) := by decide +kernel
theorem dq_Tru_hasNoRoomFor_11 : decode kb_Tru_hasNoRoomFor 11 = .ok (.ifCond .ne 17, 3) := by decide +kernel
theorem dq_Tru_hasNoRoomFor_14 : decode kb_Tru_hasNoRoomFor 14 = .ok (.aload_n 0, 1) := by decide +kernel
theorem dq_Tru_hasNoRoomFor_15 : decode kb_Tru_hasNoRoomFor 15 = .ok (.getfield 88, 3) := by decide +kernel
theorem dq_Tru_hasNoRoomFor_18 : decode kb_Tru_hasNoRoomFor 18 = .ok (.sipush (-1000), 3) := by decide +kernel
theorem dq_Tru_hasNoRoomFor_21 : decode kb_Tru_hasNoRoomFor 21 = .ok (.if_icmp .ge 7, 3) := by decide +kernel
theorem dq_Tru_hasNoRoomFor_24 : decode kb_Tru_hasNoRoomFor 24 = .ok (.iconst 1, 1) := by decide +kernel
theorem dq_Tru_hasNoRoomFor_25 : decode kb_Tru_hasNoRoomFor 25 = .ok (.goto 4, 3) := by decide +kernel
theorem dq_Tru_hasNoRoomFor_28 : decode kb_Tru_hasNoRoomFor 28 = .ok (.iconst 0, 1) := by decide +kernel
theorem dq_Tru_hasNoRoomFor_29 : decode kb_Tru_hasNoRoomFor 29 = .ok (.ireturn, 1) := by decide +kernel
theorem dq_Tru_hasNoRoomFor_30 : decode kb_Tru_hasNoRoomFor 30 = .ok (.aload_n 0, 1) := by decide +kernel
theorem dq_Tru_hasNoRoomFor_31 : decode kb_Tru_hasNoRoomFor 31 = .ok (.getfield 12, 3) := by decide +kernel
theorem dq_Tru_hasNoRoomFor_34 : decode kb_Tru_hasNoRoomFor 34 = .ok (.getfield 69, 3) := by decide +kernel
theorem dq_Tru_hasNoRoomFor_37 : decode kb_Tru_hasNoRoomFor 37 = .ok (.aload_n 0, 1) := by decide +kernel
theorem dq_Tru_hasNoRoomFor_38 : decode kb_Tru_hasNoRoomFor 38 = .ok (.getfield 91, 3) := by decide +kernel
theorem dq_Tru_hasNoRoomFor_41 : decode kb_Tru_hasNoRoomFor 41 = .ok (.iadd, 1) := by decide +kernel
theorem dq_Tru_hasNoRoomFor_42 : decode kb_Tru_hasNoRoomFor 42 = .ok (.sipush 800, 3) := by decide +kernel
theorem dq_Tru_hasNoRoomFor_45 : decode kb_Tru_hasNoRoomFor 45 = .ok (.if_icmp .lt 7, 3) := by decide +kernel
theorem dq_Tru_hasNoRoomFor_48 : decode kb_Tru_hasNoRoomFor 48 = .ok (.iconst 1, 1) := by decide +kernel
theorem dq_Tru_hasNoRoomFor_49 : decode kb_Tru_hasNoRoomFor 49 = .ok (.goto 4, 3) := by decide +kernel
theorem dq_Tru_hasNoRoomFor_52 : decode kb_Tru_hasNoRoomFor 52 = .ok (.iconst 0, 1) := by decide +kernel
theorem dq_Tru_hasNoRoomFor_53 : decode kb_Tru_hasNoRoomFor 53 = .ok (.ireturn, 1) := by decide +kernel
theorem dq_Tru_bringDigit_0 : decode kb_Tru_bringDigit 0 = .ok (.aload_n 0, 1) := by decide +kernel
theorem dq_Tru_bringDigit_1 : decode kb_Tru_bringDigit 1 = .ok (.getfield 12, 3) := by decide +kernel
theorem dq_Tru_bringDigit_4 : decode kb_Tru_bringDigit 4 = .ok (.getfield 69, 3) := by decide +kernel
theorem dq_Tru_bringDigit_7 : decode kb_Tru_bringDigit 7 = .ok (.ifCond .ne 14, 3) := by decide +kernel
theorem dq_Tru_bringDigit_10 : decode kb_Tru_bringDigit 10 = .ok (.aload_n 0, 1) := by decide +kernel
theorem dq_Tru_bringDigit_11 : decode kb_Tru_bringDigit 11 = .ok (.getfield 12, 3) := by decide +kernel
theorem dq_Tru_bringDigit_14 : decode kb_Tru_bringDigit 14 = .ok (.aload_n 0, 1) := by decide +kernel
theorem dq_Tru_bringDigit_15 : decode kb_Tru_bringDigit 15 = .ok (.getfield 88, 3) := by decide +kernel
theorem dq_Tru_bringDigit_18 : decode kb_Tru_bringDigit 18 = .ok (.putfield 106, 3) := by decide +kernel
theorem dq_Tru_bringDigit_21 : decode kb_Tru_bringDigit 21 = .ok (.iconst 0, 1) := by decide +kernel
theorem dq_Tru_bringDigit_22 : decode kb_Tru_bringDigit 22 = .ok (.istore_n 2, 1) := by decide +kernel
theorem dq_Tru_bringDigit_23 : decode kb_Tru_bringDigit 23 = .ok (.iload_n 2, 1) := by decide +kernel
theorem dq_Tru_bringDigit_24 : decode kb_Tru_bringDigit 24 = .ok (.aload_n 0, 1) := by decide +kernel
theorem dq_Tru_bringDigit_25 : decode kb_Tru_bringDigit 25 = .ok (.getfield 91, 3) := by decide +kernel
theorem dq_Tru_bringDigit_28 : decode kb_Tru_bringDigit 28 = .ok (.if_icmp .ge 17, 3) := by decide +kernel
theorem dq_Tru_bringDigit_31 : decode kb_Tru_bringDigit 31 = .ok (.aload_n 0, 1) := by decide +kernel
theorem dq_Tru_bringDigit_32 : decode kb_Tru_bringDigit 32 = .ok (.getfield 12, 3) := by decide +kernel
theorem dq_Tru_bringDigit_35 : decode kb_Tru_bringDigit 35 = .ok (.iconst 0, 1) := by decide +kernel
theorem dq_Tru_bringDigit_36 : decode kb_Tru_bringDigit 36 = .ok (.invokevirtual 134, 3) := by decide +kernel
theorem dq_Tru_bringDigit_39 : decode kb_Tru_bringDigit 39 = .ok (.iinc 2 1, 3) := by decide +kernel
theorem dq_Tru_bringDigit_42 : decode kb_Tru_bringDigit 42 = .ok (.goto (-19), 3) := by decide +kernel
theorem dq_Tru_bringDigit_45 : decode kb_Tru_bringDigit 45 = .ok (.aload_n 0, 1) := by decide +kernel
theorem dq_Tru_bringDigit_46 : decode kb_Tru_bringDigit 46 = .ok (.iconst 0, 1) := by decide +kernel
theorem dq_Tru_bringDigit_47 : decode kb_Tru_bringDigit 47 = .ok (.putfield 91, 3) := by decide +kernel
theorem dq_Tru_bringDigit_50 : decode kb_Tru_bringDigit 50 = .ok (.aload_n 0, 1) := by decide +kernel
theorem dq_Tru_bringDigit_51 : decode kb_Tru_bringDigit 51 = .ok (.getfield 12, 3) := by decide +kernel
theorem dq_Tru_bringDigit_54 : decode kb_Tru_bringDigit 54 = .ok (.iload_n 1, 1) := by decide +kernel
theorem dq_Tru_bringDigit_55 : decode kb_Tru_bringDigit 55 = .ok (.invokevirtual 134, 3) := by decide +kernel
theorem dq_Tru_bringDigit_58 : decode kb_Tru_bringDigit 58 = .ok (.return_, 1) := by decide +kernel
theorem dq_Tru_forgetWhatCame_0 : decode kb_Tru_forgetWhatCame 0 = .ok (.aload_n 0, 1) := by decide +kernel
theorem dq_Tru_forgetWhatCame_1 : decode kb_Tru_forgetWhatCame 1 = .ok (.iconst 0, 1) := by decide +kernel
theorem dq_Tru_forgetWhatCame_2 : decode kb_Tru_forgetWhatCame 2 = .ok (.putfield 91, 3) := by decide +kernel
theorem dq_Tru_forgetWhatCame_5 : decode kb_Tru_forgetWhatCame 5 = .ok (.aload_n 0, 1) := by decide +kernel
theorem dq_Tru_forgetWhatCame_6 : decode kb_Tru_forgetWhatCame 6 = .ok (.iconst 0, 1) := by decide +kernel
theorem dq_Tru_forgetWhatCame_7 : decode kb_Tru_forgetWhatCame 7 = .ok (.putfield 88, 3) := by decide +kernel
theorem dq_Tru_forgetWhatCame_10 : decode kb_Tru_forgetWhatCame 10 = .ok (.return_, 1) := by decide +kernel
theorem dq_Tru_roundToDigits_0 : decode kb_Tru_roundToDigits 0 = .ok (.iload_n 1, 1) := by decide +kernel
theorem dq_Tru_roundToDigits_1 : decode kb_Tru_roundToDigits 1 = .ok (.ifCond .ne 13, 3) := by decide +kernel
theorem dq_Tru_roundToDigits_4 : decode kb_Tru_roundToDigits 4 = .ok (.aload_n 0, 1) := by decide +kernel
theorem dq_Tru_roundToDigits_5 : decode kb_Tru_roundToDigits 5 = .ok (.getfield 12, 3) := by decide +kernel
theorem dq_Tru_roundToDigits_8 : decode kb_Tru_roundToDigits 8 = .ok (.invokevirtual 96, 3) := by decide +kernel
theorem dq_Tru_roundToDigits_11 : decode kb_Tru_roundToDigits 11 = .ok (.goto 11, 3) := by decide +kernel
theorem dq_Tru_roundToDigits_14 : decode kb_Tru_roundToDigits 14 = .ok (.aload_n 0, 1) := by decide +kernel
theorem dq_Tru_roundToDigits_15 : decode kb_Tru_roundToDigits 15 = .ok (.getfield 12, 3) := by decide +kernel
theorem dq_Tru_roundToDigits_18 : decode kb_Tru_roundToDigits 18 = .ok (.iload_n 1, 1) := by decide +kernel
theorem dq_Tru_roundToDigits_19 : decode kb_Tru_roundToDigits 19 = .ok (.invokevirtual 109, 3) := by decide +kernel
theorem dq_Tru_roundToDigits_22 : decode kb_Tru_roundToDigits 22 = .ok (.aload_n 0, 1) := by decide +kernel
theorem dq_Tru_roundToDigits_23 : decode kb_Tru_roundToDigits 23 = .ok (.invokevirtual 66, 3) := by decide +kernel
theorem dq_Tru_roundToDigits_26 : decode kb_Tru_roundToDigits 26 = .ok (.return_, 1) := by decide +kernel
theorem dq_Tru_nearestSize_0 : decode kb_Tru_nearestSize 0 = .ok (.aload_n 0, 1) := by decide +kernel
theorem dq_Tru_nearestSize_1 : decode kb_Tru_nearestSize 1 = .ok (.getfield 12, 3) := by decide +kernel
theorem dq_Tru_nearestSize_4 : decode kb_Tru_nearestSize 4 = .ok (.getfield 69, 3) := by decide +kernel
theorem dq_Tru_nearestSize_7 : decode kb_Tru_nearestSize 7 = .ok (.ifCond .eq 16, 3) := by decide +kernel
theorem dq_Tru_nearestSize_10 : decode kb_Tru_nearestSize 10 = .ok (.aload_n 0, 1) := by decide +kernel
theorem dq_Tru_nearestSize_11 : decode kb_Tru_nearestSize 11 = .ok (.getfield 12, 3) := by decide +kernel
theorem dq_Tru_nearestSize_14 : decode kb_Tru_nearestSize 14 = .ok (.getfield 106, 3) := by decide +kernel
theorem dq_Tru_nearestSize_17 : decode kb_Tru_nearestSize 17 = .ok (.sipush (-323), 3) := by decide +kernel
theorem dq_Tru_nearestSize_20 : decode kb_Tru_nearestSize 20 = .ok (.if_icmp .ge 5, 3) := by decide +kernel
theorem dq_Tru_nearestSize_23 : decode kb_Tru_nearestSize 23 = .ok (.lconst 0, 1) := by decide +kernel
theorem dq_Tru_nearestSize_24 : decode kb_Tru_nearestSize 24 = .ok (.lreturn, 1) := by decide +kernel
theorem dq_Tru_nearestSize_25 : decode kb_Tru_nearestSize 25 = .ok (.aload_n 0, 1) := by decide +kernel
theorem dq_Tru_nearestSize_26 : decode kb_Tru_nearestSize 26 = .ok (.getfield 12, 3) := by decide +kernel
theorem dq_Tru_nearestSize_29 : decode kb_Tru_nearestSize 29 = .ok (.getfield 106, 3) := by decide +kernel
theorem dq_Tru_nearestSize_32 : decode kb_Tru_nearestSize 32 = .ok (.sipush 309, 3) := by decide +kernel
theorem dq_Tru_nearestSize_35 : decode kb_Tru_nearestSize 35 = .ok (.if_icmp .le 7, 3) := by decide +kernel
theorem dq_Tru_nearestSize_38 : decode kb_Tru_nearestSize 38 = .ok (.ldc2_w 41, 3) := by decide +kernel
theorem dq_Tru_nearestSize_41 : decode kb_Tru_nearestSize 41 = .ok (.lreturn, 1) := by decide +kernel
theorem dq_Tru_nearestSize_42 : decode kb_Tru_nearestSize 42 = .ok (.aload_n 0, 1) := by decide +kernel
theorem dq_Tru_nearestSize_43 : decode kb_Tru_nearestSize 43 = .ok (.getfield 19, 3) := by decide +kernel
theorem dq_Tru_nearestSize_46 : decode kb_Tru_nearestSize 46 = .ok (.aload_n 0, 1) := by decide +kernel
theorem dq_Tru_nearestSize_47 : decode kb_Tru_nearestSize 47 = .ok (.getfield 12, 3) := by decide +kernel
theorem dq_Tru_nearestSize_50 : decode kb_Tru_nearestSize 50 = .ok (.invokevirtual 137, 3) := by decide +kernel
theorem dq_Tru_nearestSize_53 : decode kb_Tru_nearestSize 53 = .ok (.aload_n 0, 1) := by decide +kernel
theorem dq_Tru_nearestSize_54 : decode kb_Tru_nearestSize 54 = .ok (.getfield 26, 3) := by decide +kernel
theorem dq_Tru_nearestSize_57 : decode kb_Tru_nearestSize 57 = .ok (.aload_n 0, 1) := by decide +kernel
theorem dq_Tru_nearestSize_58 : decode kb_Tru_nearestSize 58 = .ok (.getfield 19, 3) := by decide +kernel
theorem dq_Tru_nearestSize_61 : decode kb_Tru_nearestSize 61 = .ok (.invokevirtual 141, 3) := by decide +kernel
theorem dq_Tru_nearestSize_64 : decode kb_Tru_nearestSize 64 = .ok (.aload_n 0, 1) := by decide +kernel
theorem dq_Tru_nearestSize_65 : decode kb_Tru_nearestSize 65 = .ok (.getfield 26, 3) := by decide +kernel
theorem dq_Tru_nearestSize_68 : decode kb_Tru_nearestSize 68 = .ok (.invokevirtual 144, 3) := by decide +kernel
theorem dq_Tru_nearestSize_71 : decode kb_Tru_nearestSize 71 = .ok (.lreturn, 1) := by decide +kernel
theorem dq_Tru_leastDigitsFor_0 : decode kb_Tru_leastDigitsFor 0 = .ok (.aload_n 0, 1) := by decide +kernel
theorem dq_Tru_leastDigitsFor_1 : decode kb_Tru_leastDigitsFor 1 = .ok (.lload_n 1, 1) := by decide +kernel
theorem dq_Tru_leastDigitsFor_2 : decode kb_Tru_leastDigitsFor 2 = .ok (.lconst 1, 1) := by decide +kernel
theorem dq_Tru_leastDigitsFor_3 : decode kb_Tru_leastDigitsFor 3 = .ok (.lsub, 1) := by decide +kernel
theorem dq_Tru_leastDigitsFor_4 : decode kb_Tru_leastDigitsFor 4 = .ok (.aload_n 0, 1) := by decide +kernel
theorem dq_Tru_leastDigitsFor_5 : decode kb_Tru_leastDigitsFor 5 = .ok (.getfield 33, 3) := by decide +kernel
theorem dq_Tru_leastDigitsFor_8 : decode kb_Tru_leastDigitsFor 8 = .ok (.invokevirtual 147, 3) := by decide +kernel
theorem dq_Tru_leastDigitsFor_11 : decode kb_Tru_leastDigitsFor 11 = .ok (.aload_n 0, 1) := by decide +kernel
theorem dq_Tru_leastDigitsFor_12 : decode kb_Tru_leastDigitsFor 12 = .ok (.lload_n 1, 1) := by decide +kernel
theorem dq_Tru_leastDigitsFor_13 : decode kb_Tru_leastDigitsFor 13 = .ok (.aload_n 0, 1) := by decide +kernel
theorem dq_Tru_leastDigitsFor_14 : decode kb_Tru_leastDigitsFor 14 = .ok (.getfield 36, 3) := by decide +kernel
theorem dq_Tru_leastDigitsFor_17 : decode kb_Tru_leastDigitsFor 17 = .ok (.invokevirtual 147, 3) := by decide +kernel
theorem dq_Tru_leastDigitsFor_20 : decode kb_Tru_leastDigitsFor 20 = .ok (.lload_n 1, 1) := by decide +kernel
theorem dq_Tru_leastDigitsFor_21 : decode kb_Tru_leastDigitsFor 21 = .ok (.lconst 1, 1) := by decide +kernel
theorem dq_Tru_leastDigitsFor_22 : decode kb_Tru_leastDigitsFor 22 = .ok (.land, 1) := by decide +kernel
theorem dq_Tru_leastDigitsFor_23 : decode kb_Tru_leastDigitsFor 23 = .ok (.lconst 0, 1) := by decide +kernel
theorem dq_Tru_leastDigitsFor_24 : decode kb_Tru_leastDigitsFor 24 = .ok (.lcmp, 1) := by decide +kernel
theorem dq_Tru_leastDigitsFor_25 : decode kb_Tru_leastDigitsFor 25 = .ok (.ifCond .ne 7, 3) := by decide +kernel
theorem dq_Tru_leastDigitsFor_28 : decode kb_Tru_leastDigitsFor 28 = .ok (.iconst 1, 1) := by decide +kernel
theorem dq_Tru_leastDigitsFor_29 : decode kb_Tru_leastDigitsFor 29 = .ok (.goto 4, 3) := by decide +kernel
theorem dq_Tru_leastDigitsFor_32 : decode kb_Tru_leastDigitsFor 32 = .ok (.iconst 0, 1) := by decide +kernel
theorem dq_Tru_leastDigitsFor_33 : decode kb_Tru_leastDigitsFor 33 = .ok (.istore_n 3, 1) := by decide +kernel
theorem dq_Tru_leastDigitsFor_34 : decode kb_Tru_leastDigitsFor 34 = .ok (.iconst 1, 1) := by decide +kernel
theorem dq_Tru_leastDigitsFor_35 : decode kb_Tru_leastDigitsFor 35 = .ok (.istore 4, 2) := by decide +kernel
theorem dq_Tru_leastDigitsFor_37 : decode kb_Tru_leastDigitsFor 37 = .ok (.iload 4, 2) := by decide +kernel
theorem dq_Tru_leastDigitsFor_39 : decode kb_Tru_leastDigitsFor 39 = .ok (.aload_n 0, 1) := by decide +kernel
theorem dq_Tru_leastDigitsFor_40 : decode kb_Tru_leastDigitsFor 40 = .ok (.getfield 12, 3) := by decide +kernel
theorem dq_Tru_leastDigitsFor_43 : decode kb_Tru_leastDigitsFor 43 = .ok (.getfield 69, 3) := by decide +kernel
theorem dq_Tru_leastDigitsFor_46 : decode kb_Tru_leastDigitsFor 46 = .ok (.if_icmp .ge 19, 3) := by decide +kernel
theorem dq_Tru_leastDigitsFor_49 : decode kb_Tru_leastDigitsFor 49 = .ok (.aload_n 0, 1) := by decide +kernel
theorem dq_Tru_leastDigitsFor_50 : decode kb_Tru_leastDigitsFor 50 = .ok (.iload 4, 2) := by decide +kernel
theorem dq_Tru_leastDigitsFor_52 : decode kb_Tru_leastDigitsFor 52 = .ok (.iload_n 3, 1) := by decide +kernel
theorem dq_Tru_leastDigitsFor_53 : decode kb_Tru_leastDigitsFor 53 = .ok (.invokevirtual 151, 3) := by decide +kernel
theorem dq_Tru_leastDigitsFor_56 : decode kb_Tru_leastDigitsFor 56 = .ok (.ifCond .ne 9, 3) := by decide +kernel
theorem dq_Tru_leastDigitsFor_59 : decode kb_Tru_leastDigitsFor 59 = .ok (.iinc 4 1, 3) := by decide +kernel
theorem dq_Tru_leastDigitsFor_62 : decode kb_Tru_leastDigitsFor 62 = .ok (.goto (-25), 3) := by decide +kernel
theorem dq_Tru_leastDigitsFor_65 : decode kb_Tru_leastDigitsFor 65 = .ok (.iload 4, 2) := by decide +kernel
theorem dq_Tru_leastDigitsFor_67 : decode kb_Tru_leastDigitsFor 67 = .ok (.ireturn, 1) := by decide +kernel
theorem dq_Tru_holdsWith_0 : decode kb_Tru_holdsWith 0 = .ok (.aload_n 0, 1) := by decide +kernel
theorem dq_Tru_holdsWith_1 : decode kb_Tru_holdsWith 1 = .ok (.getfield 12, 3) := by decide +kernel
theorem dq_Tru_holdsWith_4 : decode kb_Tru_holdsWith 4 = .ok (.iload_n 1, 1) := by decide +kernel
theorem dq_Tru_holdsWith_5 : decode kb_Tru_holdsWith 5 = .ok (.invokevirtual 155, 3) := by decide +kernel
theorem dq_Tru_holdsWith_8 : decode kb_Tru_holdsWith 8 = .ok (.istore_n 3, 1) := by decide +kernel
theorem dq_Tru_holdsWith_9 : decode kb_Tru_holdsWith 9 = .ok (.aload_n 0, 1) := by decide +kernel
theorem dq_Tru_holdsWith_10 : decode kb_Tru_holdsWith 10 = .ok (.getfield 30, 3) := by decide +kernel
theorem dq_Tru_holdsWith_13 : decode kb_Tru_holdsWith 13 = .ok (.aload_n 0, 1) := by decide +kernel
theorem dq_Tru_holdsWith_14 : decode kb_Tru_holdsWith 14 = .ok (.getfield 12, 3) := by decide +kernel
theorem dq_Tru_holdsWith_17 : decode kb_Tru_holdsWith 17 = .ok (.iload_n 1, 1) := by decide +kernel
theorem dq_Tru_holdsWith_18 : decode kb_Tru_holdsWith 18 = .ok (.invokevirtual 158, 3) := by decide +kernel
theorem dq_Tru_holdsWith_21 : decode kb_Tru_holdsWith 21 = .ok (.aload_n 0, 1) := by decide +kernel
theorem dq_Tru_holdsWith_22 : decode kb_Tru_holdsWith 22 = .ok (.getfield 30, 3) := by decide +kernel
theorem dq_Tru_holdsWith_25 : decode kb_Tru_holdsWith 25 = .ok (.iload_n 3, 1) := by decide +kernel
theorem dq_Tru_holdsWith_26 : decode kb_Tru_holdsWith 26 = .ok (.invokevirtual 162, 3) := by decide +kernel
theorem dq_Tru_holdsWith_29 : decode kb_Tru_holdsWith 29 = .ok (.iload_n 3, 1) := by decide +kernel
theorem dq_Tru_holdsWith_30 : decode kb_Tru_holdsWith 30 = .ok (.ifCond .eq 17, 3) := by decide +kernel
theorem dq_Tru_holdsWith_33 : decode kb_Tru_holdsWith 33 = .ok (.aload_n 0, 1) := by decide +kernel
theorem dq_Tru_holdsWith_34 : decode kb_Tru_holdsWith 34 = .ok (.getfield 36, 3) := by decide +kernel
theorem dq_Tru_holdsWith_37 : decode kb_Tru_holdsWith 37 = .ok (.aload_n 0, 1) := by decide +kernel
theorem dq_Tru_holdsWith_38 : decode kb_Tru_holdsWith 38 = .ok (.getfield 30, 3) := by decide +kernel
theorem dq_Tru_holdsWith_41 : decode kb_Tru_holdsWith 41 = .ok (.invokevirtual 166, 3) := by decide +kernel
theorem dq_Tru_holdsWith_44 : decode kb_Tru_holdsWith 44 = .ok (.goto 14, 3) := by decide +kernel
theorem dq_Tru_holdsWith_47 : decode kb_Tru_holdsWith 47 = .ok (.aload_n 0, 1) := by decide +kernel
theorem dq_Tru_holdsWith_48 : decode kb_Tru_holdsWith 48 = .ok (.getfield 30, 3) := by decide +kernel
theorem dq_Tru_holdsWith_51 : decode kb_Tru_holdsWith 51 = .ok (.aload_n 0, 1) := by decide +kernel
theorem dq_Tru_holdsWith_52 : decode kb_Tru_holdsWith 52 = .ok (.getfield 33, 3) := by decide +kernel
theorem dq_Tru_holdsWith_55 : decode kb_Tru_holdsWith 55 = .ok (.invokevirtual 166, 3) := by decide +kernel
theorem dq_Tru_holdsWith_58 : decode kb_Tru_holdsWith 58 = .ok (.istore 4, 2) := by decide +kernel
theorem dq_Tru_holdsWith_60 : decode kb_Tru_holdsWith 60 = .ok (.iload_n 2, 1) := by decide +kernel
theorem dq_Tru_holdsWith_61 : decode kb_Tru_holdsWith 61 = .ok (.ifCond .eq 16, 3) := by decide +kernel
theorem dq_Tru_holdsWith_64 : decode kb_Tru_holdsWith 64 = .ok (.iload 4, 2) := by decide +kernel
theorem dq_Tru_holdsWith_66 : decode kb_Tru_holdsWith 66 = .ok (.ifCond .lt 7, 3) := by decide +kernel
theorem dq_Tru_holdsWith_69 : decode kb_Tru_holdsWith 69 = .ok (.iconst 1, 1) := by decide +kernel
theorem dq_Tru_holdsWith_70 : decode kb_Tru_holdsWith 70 = .ok (.goto 17, 3) := by decide +kernel
theorem dq_Tru_holdsWith_73 : decode kb_Tru_holdsWith 73 = .ok (.iconst 0, 1) := by decide +kernel
theorem dq_Tru_holdsWith_74 : decode kb_Tru_holdsWith 74 = .ok (.goto 13, 3) := by decide +kernel
theorem dq_Tru_holdsWith_77 : decode kb_Tru_holdsWith 77 = .ok (.iload 4, 2) := by decide +kernel
theorem dq_Tru_holdsWith_79 : decode kb_Tru_holdsWith 79 = .ok (.ifCond .le 7, 3) := by decide +kernel
theorem dq_Tru_holdsWith_82 : decode kb_Tru_holdsWith 82 = .ok (.iconst 1, 1) := by decide +kernel
theorem dq_Tru_holdsWith_83 : decode kb_Tru_holdsWith 83 = .ok (.goto 4, 3) := by decide +kernel
theorem dq_Tru_holdsWith_86 : decode kb_Tru_holdsWith 86 = .ok (.iconst 0, 1) := by decide +kernel
theorem dq_Tru_holdsWith_87 : decode kb_Tru_holdsWith 87 = .ok (.ireturn, 1) := by decide +kernel
theorem dq_Tru_spellMiddleAbove_0 : decode kb_Tru_spellMiddleAbove 0 = .ok (.aload_n 0, 1) := by decide +kernel
theorem dq_Tru_spellMiddleAbove_1 : decode kb_Tru_spellMiddleAbove 1 = .ok (.ldc2_w 170, 3) := by decide +kernel
theorem dq_Tru_spellMiddleAbove_4 : decode kb_Tru_spellMiddleAbove 4 = .ok (.lload_n 1, 1) := by decide +kernel
theorem dq_Tru_spellMiddleAbove_5 : decode kb_Tru_spellMiddleAbove 5 = .ok (.invokestatic 54, 3) := by decide +kernel
theorem dq_Tru_spellMiddleAbove_8 : decode kb_Tru_spellMiddleAbove 8 = .ok (.lmul, 1) := by decide +kernel
theorem dq_Tru_spellMiddleAbove_9 : decode kb_Tru_spellMiddleAbove 9 = .ok (.lconst 1, 1) := by decide +kernel
theorem dq_Tru_spellMiddleAbove_10 : decode kb_Tru_spellMiddleAbove 10 = .ok (.ladd, 1) := by decide +kernel
theorem dq_Tru_spellMiddleAbove_11 : decode kb_Tru_spellMiddleAbove 11 = .ok (.lload_n 1, 1) := by decide +kernel
theorem dq_Tru_spellMiddleAbove_12 : decode kb_Tru_spellMiddleAbove 12 = .ok (.invokestatic 58, 3) := by decide +kernel
theorem dq_Tru_spellMiddleAbove_15 : decode kb_Tru_spellMiddleAbove 15 = .ok (.iconst 1, 1) := by decide +kernel
theorem dq_Tru_spellMiddleAbove_16 : decode kb_Tru_spellMiddleAbove 16 = .ok (.isub, 1) := by decide +kernel
theorem dq_Tru_spellMiddleAbove_17 : decode kb_Tru_spellMiddleAbove 17 = .ok (.aload_n 3, 1) := by decide +kernel
theorem dq_Tru_spellMiddleAbove_18 : decode kb_Tru_spellMiddleAbove 18 = .ok (.invokevirtual 62, 3) := by decide +kernel
theorem dq_Tru_spellMiddleAbove_21 : decode kb_Tru_spellMiddleAbove 21 = .ok (.return_, 1) := by decide +kernel
theorem dq_Tru_spell_0 : decode kb_Tru_spell 0 = .ok (.aload_n 0, 1) := by decide +kernel
theorem dq_Tru_spell_1 : decode kb_Tru_spell 1 = .ok (.getfield 19, 3) := by decide +kernel
theorem dq_Tru_spell_4 : decode kb_Tru_spell 4 = .ok (.lload_n 1, 1) := by decide +kernel
theorem dq_Tru_spell_5 : decode kb_Tru_spell 5 = .ok (.iload_n 3, 1) := by decide +kernel
theorem dq_Tru_spell_6 : decode kb_Tru_spell 6 = .ok (.invokevirtual 172, 3) := by decide +kernel
theorem dq_Tru_spell_9 : decode kb_Tru_spell 9 = .ok (.aload 4, 2) := by decide +kernel
theorem dq_Tru_spell_11 : decode kb_Tru_spell 11 = .ok (.aload_n 0, 1) := by decide +kernel
theorem dq_Tru_spell_12 : decode kb_Tru_spell 12 = .ok (.getfield 19, 3) := by decide +kernel
theorem dq_Tru_spell_15 : decode kb_Tru_spell 15 = .ok (.invokevirtual 176, 3) := by decide +kernel
theorem dq_Tru_spell_18 : decode kb_Tru_spell 18 = .ok (.return_, 1) := by decide +kernel
theorem dq_Tru_factorOf_0 : decode kb_Tru_factorOf 0 = .ok (.lload_n 0, 1) := by decide +kernel
theorem dq_Tru_factorOf_1 : decode kb_Tru_factorOf 1 = .ok (.ldc2_w 179, 3) := by decide +kernel
theorem dq_Tru_factorOf_4 : decode kb_Tru_factorOf 4 = .ok (.land, 1) := by decide +kernel
theorem dq_Tru_factorOf_5 : decode kb_Tru_factorOf 5 = .ok (.lstore_n 2, 1) := by decide +kernel
theorem dq_Tru_factorOf_6 : decode kb_Tru_factorOf 6 = .ok (.lload_n 0, 1) := by decide +kernel
theorem dq_Tru_factorOf_7 : decode kb_Tru_factorOf 7 = .ok (.ldc2_w 179, 3) := by decide +kernel
theorem dq_Tru_factorOf_10 : decode kb_Tru_factorOf 10 = .ok (.lcmp, 1) := by decide +kernel
theorem dq_Tru_factorOf_11 : decode kb_Tru_factorOf 11 = .ok (.ifCond .le 13, 3) := by decide +kernel
theorem dq_Tru_factorOf_14 : decode kb_Tru_factorOf 14 = .ok (.lload_n 2, 1) := by decide +kernel
theorem dq_Tru_factorOf_15 : decode kb_Tru_factorOf 15 = .ok (.ldc2_w 179, 3) := by decide +kernel
theorem dq_Tru_factorOf_18 : decode kb_Tru_factorOf 18 = .ok (.ladd, 1) := by decide +kernel
theorem dq_Tru_factorOf_19 : decode kb_Tru_factorOf 19 = .ok (.lconst 1, 1) := by decide +kernel
theorem dq_Tru_factorOf_20 : decode kb_Tru_factorOf 20 = .ok (.ladd, 1) := by decide +kernel
theorem dq_Tru_factorOf_21 : decode kb_Tru_factorOf 21 = .ok (.goto 4, 3) := by decide +kernel
theorem dq_Tru_factorOf_24 : decode kb_Tru_factorOf 24 = .ok (.lload_n 2, 1) := by decide +kernel
theorem dq_Tru_factorOf_25 : decode kb_Tru_factorOf 25 = .ok (.lreturn, 1) := by decide +kernel
theorem dq_Tru_powerOf_0 : decode kb_Tru_powerOf 0 = .ok (.lload_n 0, 1) := by decide +kernel
theorem dq_Tru_powerOf_1 : decode kb_Tru_powerOf 1 = .ok (.bipush 52, 2) := by decide +kernel
theorem dq_Tru_powerOf_3 : decode kb_Tru_powerOf 3 = .ok (.lushr, 1) := by decide +kernel
theorem dq_Tru_powerOf_4 : decode kb_Tru_powerOf 4 = .ok (.l2i, 1) := by decide +kernel
theorem dq_Tru_powerOf_5 : decode kb_Tru_powerOf 5 = .ok (.istore_n 2, 1) := by decide +kernel
theorem dq_Tru_powerOf_6 : decode kb_Tru_powerOf 6 = .ok (.sipush (-1074), 3) := by decide +kernel
theorem dq_Tru_powerOf_9 : decode kb_Tru_powerOf 9 = .ok (.iload_n 2, 1) := by decide +kernel
theorem dq_Tru_powerOf_10 : decode kb_Tru_powerOf 10 = .ok (.iconst 1, 1) := by decide +kernel
theorem dq_Tru_powerOf_11 : decode kb_Tru_powerOf 11 = .ok (.invokestatic 181, 3) := by decide +kernel
theorem dq_Tru_powerOf_14 : decode kb_Tru_powerOf 14 = .ok (.iadd, 1) := by decide +kernel
theorem dq_Tru_powerOf_15 : decode kb_Tru_powerOf 15 = .ok (.iconst 1, 1) := by decide +kernel
theorem dq_Tru_powerOf_16 : decode kb_Tru_powerOf 16 = .ok (.isub, 1) := by decide +kernel
theorem dq_Tru_powerOf_17 : decode kb_Tru_powerOf 17 = .ok (.ireturn, 1) := by decide +kernel
end
section
theorem dq_Wrd_init_0 : decode kb_Wrd_init 0 = .ok (.aload_n 0, 1) := by decide +kernel
theorem dq_Wrd_init_1 : decode kb_Wrd_init 1 = .ok (.invokespecial 5, 3) := by decide +kernel
theorem dq_Wrd_init_4 : decode kb_Wrd_init 4 = .ok (.aload_n 0, 1) := by decide +kernel
theorem dq_Wrd_init_5 : decode kb_Wrd_init 5 = .ok (.bipush 70, 2) := by decide +kernel
theorem dq_Wrd_init_7 : decode kb_Wrd_init 7 = .ok (.newarray .long, 2) := by decide +kernel
theorem dq_Wrd_init_9 : decode kb_Wrd_init 9 = .ok (.putfield 11, 3) := by decide +kernel
theorem dq_Wrd_init_12 : decode kb_Wrd_init 12 = .ok (.return_, 1) := by decide +kernel
theorem dq_Wrd_load_0 : decode kb_Wrd_load 0 = .ok (.aload_n 0, 1) := by decide +kernel
theorem dq_Wrd_load_1 : decode kb_Wrd_load 1 = .ok (.getfield 11, 3) := by decide +kernel
theorem dq_Wrd_load_4 : decode kb_Wrd_load 4 = .ok (.lconst 0, 1) := by decide +kernel
theorem dq_Wrd_load_5 : decode kb_Wrd_load 5 = .ok (.invokestatic 15, 3) := by decide +kernel
theorem dq_Wrd_load_8 : decode kb_Wrd_load 8 = .ok (.bipush 32, 2) := by decide +kernel
theorem dq_Wrd_load_10 : decode kb_Wrd_load 10 = .ok (.istore_n 2, 1) := by decide +kernel
theorem dq_Wrd_load_11 : decode kb_Wrd_load 11 = .ok (.iload_n 2, 1) := by decide +kernel
theorem dq_Wrd_load_12 : decode kb_Wrd_load 12 = .ok (.ifCond .lt 23, 3) := by decide +kernel
theorem dq_Wrd_load_15 : decode kb_Wrd_load 15 = .ok (.aload_n 0, 1) := by decide +kernel
theorem dq_Wrd_load_16 : decode kb_Wrd_load 16 = .ok (.getfield 11, 3) := by decide +kernel
theorem dq_Wrd_load_19 : decode kb_Wrd_load 19 = .ok (.iload_n 2, 1) := by decide +kernel
theorem dq_Wrd_load_20 : decode kb_Wrd_load 20 = .ok (.aload_n 1, 1) := by decide +kernel
theorem dq_Wrd_load_21 : decode kb_Wrd_load 21 = .ok (.bipush 35, 2) := by decide +kernel
theorem dq_Wrd_load_23 : decode kb_Wrd_load 23 = .ok (.bipush 32, 2) := by decide +kernel
theorem dq_Wrd_load_25 : decode kb_Wrd_load 25 = .ok (.invokevirtual 23, 3) := by decide +kernel
theorem dq_Wrd_load_28 : decode kb_Wrd_load 28 = .ok (.lastore, 1) := by decide +kernel
theorem dq_Wrd_load_29 : decode kb_Wrd_load 29 = .ok (.iinc 2 (-1), 3) := by decide +kernel
theorem dq_Wrd_load_32 : decode kb_Wrd_load 32 = .ok (.goto (-21), 3) := by decide +kernel
theorem dq_Wrd_load_35 : decode kb_Wrd_load 35 = .ok (.aload_n 0, 1) := by decide +kernel
theorem dq_Wrd_load_36 : decode kb_Wrd_load 36 = .ok (.bipush 33, 2) := by decide +kernel
theorem dq_Wrd_load_38 : decode kb_Wrd_load 38 = .ok (.invokevirtual 27, 3) := by decide +kernel
theorem dq_Wrd_load_41 : decode kb_Wrd_load 41 = .ok (.istore_n 2, 1) := by decide +kernel
theorem dq_Wrd_load_42 : decode kb_Wrd_load 42 = .ok (.bipush 33, 2) := by decide +kernel
theorem dq_Wrd_load_44 : decode kb_Wrd_load 44 = .ok (.istore_n 3, 1) := by decide +kernel
theorem dq_Wrd_load_45 : decode kb_Wrd_load 45 = .ok (.iload_n 3, 1) := by decide +kernel
theorem dq_Wrd_load_46 : decode kb_Wrd_load 46 = .ok (.bipush 67, 2) := by decide +kernel
theorem dq_Wrd_load_48 : decode kb_Wrd_load 48 = .ok (.if_icmp .ge 49, 3) := by decide +kernel
theorem dq_Wrd_load_51 : decode kb_Wrd_load 51 = .ok (.iload_n 3, 1) := by decide +kernel
theorem dq_Wrd_load_52 : decode kb_Wrd_load 52 = .ok (.iload_n 2, 1) := by decide +kernel
theorem dq_Wrd_load_53 : decode kb_Wrd_load 53 = .ok (.iconst 3, 1) := by decide +kernel
theorem dq_Wrd_load_54 : decode kb_Wrd_load 54 = .ok (.iadd, 1) := by decide +kernel
theorem dq_Wrd_load_55 : decode kb_Wrd_load 55 = .ok (.if_icmp .ge 42, 3) := by decide +kernel
theorem dq_Wrd_load_58 : decode kb_Wrd_load 58 = .ok (.aload_n 0, 1) := by decide +kernel
theorem dq_Wrd_load_59 : decode kb_Wrd_load 59 = .ok (.getfield 11, 3) := by decide +kernel
theorem dq_Wrd_load_62 : decode kb_Wrd_load 62 = .ok (.iload_n 3, 1) := by decide +kernel
theorem dq_Wrd_load_63 : decode kb_Wrd_load 63 = .ok (.aload_n 1, 1) := by decide +kernel
theorem dq_Wrd_load_64 : decode kb_Wrd_load 64 = .ok (.bipush 35, 2) := by decide +kernel
theorem dq_Wrd_load_66 : decode kb_Wrd_load 66 = .ok (.bipush 32, 2) := by decide +kernel
theorem dq_Wrd_load_68 : decode kb_Wrd_load 68 = .ok (.invokevirtual 31, 3) := by decide +kernel
theorem dq_Wrd_load_71 : decode kb_Wrd_load 71 = .ok (.lastore, 1) := by decide +kernel
theorem dq_Wrd_load_72 : decode kb_Wrd_load 72 = .ok (.aload_n 0, 1) := by decide +kernel
theorem dq_Wrd_load_73 : decode kb_Wrd_load 73 = .ok (.getfield 11, 3) := by decide +kernel
theorem dq_Wrd_load_76 : decode kb_Wrd_load 76 = .ok (.iload_n 3, 1) := by decide +kernel
theorem dq_Wrd_load_77 : decode kb_Wrd_load 77 = .ok (.laload, 1) := by decide +kernel
theorem dq_Wrd_load_78 : decode kb_Wrd_load 78 = .ok (.lconst 0, 1) := by decide +kernel
theorem dq_Wrd_load_79 : decode kb_Wrd_load 79 = .ok (.lcmp, 1) := by decide +kernel
theorem dq_Wrd_load_80 : decode kb_Wrd_load 80 = .ok (.ifCond .ne 11, 3) := by decide +kernel
theorem dq_Wrd_load_83 : decode kb_Wrd_load 83 = .ok (.iload_n 2, 1) := by decide +kernel
theorem dq_Wrd_load_84 : decode kb_Wrd_load 84 = .ok (.iload_n 3, 1) := by decide +kernel
theorem dq_Wrd_load_85 : decode kb_Wrd_load 85 = .ok (.if_icmp .ne 6, 3) := by decide +kernel
theorem dq_Wrd_load_88 : decode kb_Wrd_load 88 = .ok (.iinc 2 1, 3) := by decide +kernel
theorem dq_Wrd_load_91 : decode kb_Wrd_load 91 = .ok (.iinc 3 1, 3) := by decide +kernel
theorem dq_Wrd_load_94 : decode kb_Wrd_load 94 = .ok (.goto (-49), 3) := by decide +kernel
theorem dq_Wrd_load_97 : decode kb_Wrd_load 97 = .ok (.aload_n 0, 1) := by decide +kernel
theorem dq_Wrd_load_98 : decode kb_Wrd_load 98 = .ok (.aload_n 1, 1) := by decide +kernel
theorem dq_Wrd_load_99 : decode kb_Wrd_load 99 = .ok (.invokevirtual 34, 3) := by decide +kernel
theorem dq_Wrd_load_102 : decode kb_Wrd_load 102 = .ok (.putfield 38, 3) := by decide +kernel
theorem dq_Wrd_load_105 : decode kb_Wrd_load 105 = .ok (.return_, 1) := by decide +kernel
theorem dq_Wrd_roundedSize_0 : decode kb_Wrd_roundedSize 0 = .ok (.aload_n 0, 1) := by decide +kernel
theorem dq_Wrd_roundedSize_1 : decode kb_Wrd_roundedSize 1 = .ok (.bipush 67, 2) := by decide +kernel
theorem dq_Wrd_roundedSize_3 : decode kb_Wrd_roundedSize 3 = .ok (.invokevirtual 27, 3) := by decide +kernel
theorem dq_Wrd_roundedSize_6 : decode kb_Wrd_roundedSize 6 = .ok (.istore_n 1, 1) := by decide +kernel
theorem dq_Wrd_roundedSize_7 : decode kb_Wrd_roundedSize 7 = .ok (.iload_n 1, 1) := by decide +kernel
theorem dq_Wrd_roundedSize_8 : decode kb_Wrd_roundedSize 8 = .ok (.bipush 67, 2) := by decide +kernel
theorem dq_Wrd_roundedSize_10 : decode kb_Wrd_roundedSize 10 = .ok (.if_icmp .ne 5, 3) := by decide +kernel
theorem dq_Wrd_roundedSize_13 : decode kb_Wrd_roundedSize 13 = .ok (.lconst 0, 1) := by decide +kernel
theorem dq_Wrd_roundedSize_14 : decode kb_Wrd_roundedSize 14 = .ok (.lreturn, 1) := by decide +kernel
theorem dq_Wrd_roundedSize_15 : decode kb_Wrd_roundedSize 15 = .ok (.aload_n 0, 1) := by decide +kernel
theorem dq_Wrd_roundedSize_16 : decode kb_Wrd_roundedSize 16 = .ok (.getfield 11, 3) := by decide +kernel
theorem dq_Wrd_roundedSize_19 : decode kb_Wrd_roundedSize 19 = .ok (.iload_n 1, 1) := by decide +kernel
theorem dq_Wrd_roundedSize_20 : decode kb_Wrd_roundedSize 20 = .ok (.laload, 1) := by decide +kernel
theorem dq_Wrd_roundedSize_21 : decode kb_Wrd_roundedSize 21 = .ok (.invokestatic 42, 3) := by decide +kernel
theorem dq_Wrd_roundedSize_24 : decode kb_Wrd_roundedSize 24 = .ok (.bipush 32, 2) := by decide +kernel
theorem dq_Wrd_roundedSize_26 : decode kb_Wrd_roundedSize 26 = .ok (.isub, 1) := by decide +kernel
theorem dq_Wrd_roundedSize_27 : decode kb_Wrd_roundedSize 27 = .ok (.istore_n 2, 1) := by decide +kernel
theorem dq_Wrd_roundedSize_28 : decode kb_Wrd_roundedSize 28 = .ok (.bipush 33, 2) := by decide +kernel
theorem dq_Wrd_roundedSize_30 : decode kb_Wrd_roundedSize 30 = .ok (.iload_n 1, 1) := by decide +kernel
theorem dq_Wrd_roundedSize_31 : decode kb_Wrd_roundedSize 31 = .ok (.isub, 1) := by decide +kernel
theorem dq_Wrd_roundedSize_32 : decode kb_Wrd_roundedSize 32 = .ok (.bipush 32, 2) := by decide +kernel
theorem dq_Wrd_roundedSize_34 : decode kb_Wrd_roundedSize 34 = .ok (.imul, 1) := by decide +kernel
theorem dq_Wrd_roundedSize_35 : decode kb_Wrd_roundedSize 35 = .ok (.iconst 1, 1) := by decide +kernel
theorem dq_Wrd_roundedSize_36 : decode kb_Wrd_roundedSize 36 = .ok (.isub, 1) := by decide +kernel
theorem dq_Wrd_roundedSize_37 : decode kb_Wrd_roundedSize 37 = .ok (.iload_n 2, 1) := by decide +kernel
theorem dq_Wrd_roundedSize_38 : decode kb_Wrd_roundedSize 38 = .ok (.isub, 1) := by decide +kernel
theorem dq_Wrd_roundedSize_39 : decode kb_Wrd_roundedSize 39 = .ok (.istore_n 3, 1) := by decide +kernel
theorem dq_Wrd_roundedSize_40 : decode kb_Wrd_roundedSize 40 = .ok (.iload_n 3, 1) := by decide +kernel
theorem dq_Wrd_roundedSize_41 : decode kb_Wrd_roundedSize 41 = .ok (.sipush 1023, 3) := by decide +kernel
theorem dq_Wrd_roundedSize_44 : decode kb_Wrd_roundedSize 44 = .ok (.if_icmp .le 7, 3) := by decide +kernel
theorem dq_Wrd_roundedSize_47 : decode kb_Wrd_roundedSize 47 = .ok (.ldc2_w 48, 3) := by decide +kernel
theorem dq_Wrd_roundedSize_50 : decode kb_Wrd_roundedSize 50 = .ok (.lreturn, 1) := by decide +kernel
theorem dq_Wrd_roundedSize_51 : decode kb_Wrd_roundedSize 51 = .ok (.aload_n 0, 1) := by decide +kernel
theorem dq_Wrd_roundedSize_52 : decode kb_Wrd_roundedSize 52 = .ok (.getfield 11, 3) := by decide +kernel
theorem dq_Wrd_roundedSize_55 : decode kb_Wrd_roundedSize 55 = .ok (.iload_n 1, 1) := by decide +kernel
theorem dq_Wrd_roundedSize_56 : decode kb_Wrd_roundedSize 56 = .ok (.iconst 2, 1) := by decide +kernel
theorem dq_Wrd_roundedSize_57 : decode kb_Wrd_roundedSize 57 = .ok (.iadd, 1) := by decide +kernel
theorem dq_Wrd_roundedSize_58 : decode kb_Wrd_roundedSize 58 = .ok (.laload, 1) := by decide +kernel
theorem dq_Wrd_roundedSize_59 : decode kb_Wrd_roundedSize 59 = .ok (.iload_n 2, 1) := by decide +kernel
theorem dq_Wrd_roundedSize_60 : decode kb_Wrd_roundedSize 60 = .ok (.lshl, 1) := by decide +kernel
theorem dq_Wrd_roundedSize_61 : decode kb_Wrd_roundedSize 61 = .ok (.lstore 4, 2) := by decide +kernel
theorem dq_Wrd_roundedSize_63 : decode kb_Wrd_roundedSize 63 = .ok (.aload_n 0, 1) := by decide +kernel
theorem dq_Wrd_roundedSize_64 : decode kb_Wrd_roundedSize 64 = .ok (.getfield 11, 3) := by decide +kernel
theorem dq_Wrd_roundedSize_67 : decode kb_Wrd_roundedSize 67 = .ok (.iload_n 1, 1) := by decide +kernel
theorem dq_Wrd_roundedSize_68 : decode kb_Wrd_roundedSize 68 = .ok (.laload, 1) := by decide +kernel
theorem dq_Wrd_roundedSize_69 : decode kb_Wrd_roundedSize 69 = .ok (.bipush 32, 2) := by decide +kernel
theorem dq_Wrd_roundedSize_71 : decode kb_Wrd_roundedSize 71 = .ok (.iload_n 2, 1) := by decide +kernel
theorem dq_Wrd_roundedSize_72 : decode kb_Wrd_roundedSize 72 = .ok (.iadd, 1) := by decide +kernel
theorem dq_Wrd_roundedSize_73 : decode kb_Wrd_roundedSize 73 = .ok (.lshl, 1) := by decide +kernel
theorem dq_Wrd_roundedSize_74 : decode kb_Wrd_roundedSize 74 = .ok (.aload_n 0, 1) := by decide +kernel
theorem dq_Wrd_roundedSize_75 : decode kb_Wrd_roundedSize 75 = .ok (.getfield 11, 3) := by decide +kernel
theorem dq_Wrd_roundedSize_78 : decode kb_Wrd_roundedSize 78 = .ok (.iload_n 1, 1) := by decide +kernel
theorem dq_Wrd_roundedSize_79 : decode kb_Wrd_roundedSize 79 = .ok (.iconst 1, 1) := by decide +kernel
theorem dq_Wrd_roundedSize_80 : decode kb_Wrd_roundedSize 80 = .ok (.iadd, 1) := by decide +kernel
theorem dq_Wrd_roundedSize_81 : decode kb_Wrd_roundedSize 81 = .ok (.laload, 1) := by decide +kernel
theorem dq_Wrd_roundedSize_82 : decode kb_Wrd_roundedSize 82 = .ok (.iload_n 2, 1) := by decide +kernel
theorem dq_Wrd_roundedSize_83 : decode kb_Wrd_roundedSize 83 = .ok (.lshl, 1) := by decide +kernel
theorem dq_Wrd_roundedSize_84 : decode kb_Wrd_roundedSize 84 = .ok (.lor, 1) := by decide +kernel
theorem dq_Wrd_roundedSize_85 : decode kb_Wrd_roundedSize 85 = .ok (.lload 4, 2) := by decide +kernel
theorem dq_Wrd_roundedSize_87 : decode kb_Wrd_roundedSize 87 = .ok (.bipush 32, 2) := by decide +kernel
theorem dq_Wrd_roundedSize_89 : decode kb_Wrd_roundedSize 89 = .ok (.lushr, 1) := by decide +kernel
theorem dq_Wrd_roundedSize_90 : decode kb_Wrd_roundedSize 90 = .ok (.lor, 1) := by decide +kernel
theorem dq_Wrd_roundedSize_91 : decode kb_Wrd_roundedSize 91 = .ok (.lstore 6, 2) := by decide +kernel
theorem dq_Wrd_roundedSize_93 : decode kb_Wrd_roundedSize 93 = .ok (.lload 4, 2) := by decide +kernel
theorem dq_Wrd_roundedSize_95 : decode kb_Wrd_roundedSize 95 = .ok (.l2i, 1) := by decide +kernel
theorem dq_Wrd_roundedSize_96 : decode kb_Wrd_roundedSize 96 = .ok (.ifCond .ne 13, 3) := by decide +kernel
theorem dq_Wrd_roundedSize_99 : decode kb_Wrd_roundedSize 99 = .ok (.aload_n 0, 1) := by decide +kernel
theorem dq_Wrd_roundedSize_100 : decode kb_Wrd_roundedSize 100 = .ok (.iload_n 1, 1) := by decide +kernel
theorem dq_Wrd_roundedSize_101 : decode kb_Wrd_roundedSize 101 = .ok (.iconst 3, 1) := by decide +kernel
theorem dq_Wrd_roundedSize_102 : decode kb_Wrd_roundedSize 102 = .ok (.iadd, 1) := by decide +kernel
theorem dq_Wrd_roundedSize_103 : decode kb_Wrd_roundedSize 103 = .ok (.invokevirtual 50, 3) := by decide +kernel
theorem dq_Wrd_roundedSize_106 : decode kb_Wrd_roundedSize 106 = .ok (.ifCond .eq 7, 3) := by decide +kernel
theorem dq_Wrd_roundedSize_109 : decode kb_Wrd_roundedSize 109 = .ok (.iconst 1, 1) := by decide +kernel
theorem dq_Wrd_roundedSize_110 : decode kb_Wrd_roundedSize 110 = .ok (.goto 4, 3) := by decide +kernel
theorem dq_Wrd_roundedSize_113 : decode kb_Wrd_roundedSize 113 = .ok (.iconst 0, 1) := by decide +kernel
theorem dq_Wrd_roundedSize_114 : decode kb_Wrd_roundedSize 114 = .ok (.istore 8, 2) := by decide +kernel
theorem dq_Wrd_roundedSize_116 : decode kb_Wrd_roundedSize 116 = .ok (.lload 6, 2) := by decide +kernel
theorem dq_Wrd_roundedSize_118 : decode kb_Wrd_roundedSize 118 = .ok (.iload 8, 2) := by decide +kernel
theorem dq_Wrd_roundedSize_120 : decode kb_Wrd_roundedSize 120 = .ok (.iload_n 3, 1) := by decide +kernel
theorem dq_Wrd_roundedSize_121 : decode kb_Wrd_roundedSize 121 = .ok (.invokestatic 54, 3) := by decide +kernel
theorem dq_Wrd_roundedSize_124 : decode kb_Wrd_roundedSize 124 = .ok (.lreturn, 1) := by decide +kernel
theorem dq_Wrd_roundHead_0 : decode kb_Wrd_roundHead 0 = .ok (.iload_n 3, 1) := by decide +kernel
theorem dq_Wrd_roundHead_1 : decode kb_Wrd_roundHead 1 = .ok (.bipush 52, 2) := by decide +kernel
theorem dq_Wrd_roundHead_3 : decode kb_Wrd_roundHead 3 = .ok (.isub, 1) := by decide +kernel
theorem dq_Wrd_roundHead_4 : decode kb_Wrd_roundHead 4 = .ok (.sipush (-1074), 3) := by decide +kernel
theorem dq_Wrd_roundHead_7 : decode kb_Wrd_roundHead 7 = .ok (.invokestatic 58, 3) := by decide +kernel
theorem dq_Wrd_roundHead_10 : decode kb_Wrd_roundHead 10 = .ok (.istore 4, 2) := by decide +kernel
theorem dq_Wrd_roundHead_12 : decode kb_Wrd_roundHead 12 = .ok (.iload_n 3, 1) := by decide +kernel
theorem dq_Wrd_roundHead_13 : decode kb_Wrd_roundHead 13 = .ok (.iload 4, 2) := by decide +kernel
theorem dq_Wrd_roundHead_15 : decode kb_Wrd_roundHead 15 = .ok (.isub, 1) := by decide +kernel
theorem dq_Wrd_roundHead_16 : decode kb_Wrd_roundHead 16 = .ok (.iconst 1, 1) := by decide +kernel
theorem dq_Wrd_roundHead_17 : decode kb_Wrd_roundHead 17 = .ok (.iadd, 1) := by decide +kernel
theorem dq_Wrd_roundHead_18 : decode kb_Wrd_roundHead 18 = .ok (.istore 5, 2) := by decide +kernel
theorem dq_Wrd_roundHead_20 : decode kb_Wrd_roundHead 20 = .ok (.iload 5, 2) := by decide +kernel
theorem dq_Wrd_roundHead_22 : decode kb_Wrd_roundHead 22 = .ok (.ifCond .ge 5, 3) := by decide +kernel
theorem dq_Wrd_roundHead_25 : decode kb_Wrd_roundHead 25 = .ok (.lconst 0, 1) := by decide +kernel
theorem dq_Wrd_roundHead_26 : decode kb_Wrd_roundHead 26 = .ok (.lreturn, 1) := by decide +kernel
theorem dq_Wrd_roundHead_27 : decode kb_Wrd_roundHead 27 = .ok (.iload 5, 2) := by decide +kernel
theorem dq_Wrd_roundHead_29 : decode kb_Wrd_roundHead 29 = .ok (.ifCond .ne 7, 3) := by decide +kernel
theorem dq_Wrd_roundHead_32 : decode kb_Wrd_roundHead 32 = .ok (.lconst 0, 1) := by decide +kernel
theorem dq_Wrd_roundHead_33 : decode kb_Wrd_roundHead 33 = .ok (.goto 10, 3) := by decide +kernel
theorem dq_Wrd_roundHead_36 : decode kb_Wrd_roundHead 36 = .ok (.lload_n 0, 1) := by decide +kernel
theorem dq_Wrd_roundHead_37 : decode kb_Wrd_roundHead 37 = .ok (.bipush 64, 2) := by decide +kernel
theorem dq_Wrd_roundHead_39 : decode kb_Wrd_roundHead 39 = .ok (.iload 5, 2) := by decide +kernel
theorem dq_Wrd_roundHead_41 : decode kb_Wrd_roundHead 41 = .ok (.isub, 1) := by decide +kernel
theorem dq_Wrd_roundHead_42 : decode kb_Wrd_roundHead 42 = .ok (.lushr, 1) := by decide +kernel
theorem dq_Wrd_roundHead_43 : decode kb_Wrd_roundHead 43 = .ok (.lstore 6, 2) := by decide +kernel
theorem dq_Wrd_roundHead_45 : decode kb_Wrd_roundHead 45 = .ok (.lload_n 0, 1) := by decide +kernel
theorem dq_Wrd_roundHead_46 : decode kb_Wrd_roundHead 46 = .ok (.iload 5, 2) := by decide +kernel
theorem dq_Wrd_roundHead_48 : decode kb_Wrd_roundHead 48 = .ok (.lshl, 1) := by decide +kernel
theorem dq_Wrd_roundHead_49 : decode kb_Wrd_roundHead 49 = .ok (.lstore 8, 2) := by decide +kernel
theorem dq_Wrd_roundHead_51 : decode kb_Wrd_roundHead 51 = .ok (.lload 8, 2) := by decide +kernel
theorem dq_Wrd_roundHead_53 : decode kb_Wrd_roundHead 53 = .ok (.lconst 0, 1) := by decide +kernel
theorem dq_Wrd_roundHead_54 : decode kb_Wrd_roundHead 54 = .ok (.lcmp, 1) := by decide +kernel
theorem dq_Wrd_roundHead_55 : decode kb_Wrd_roundHead 55 = .ok (.ifCond .ge 7, 3) := by decide +kernel
theorem dq_Wrd_roundHead_58 : decode kb_Wrd_roundHead 58 = .ok (.iconst 1, 1) := by decide +kernel
theorem dq_Wrd_roundHead_59 : decode kb_Wrd_roundHead 59 = .ok (.goto 4, 3) := by decide +kernel
theorem dq_Wrd_roundHead_62 : decode kb_Wrd_roundHead 62 = .ok (.iconst 0, 1) := by decide +kernel
theorem dq_Wrd_roundHead_63 : decode kb_Wrd_roundHead 63 = .ok (.istore 10, 2) := by decide +kernel
theorem dq_Wrd_roundHead_65 : decode kb_Wrd_roundHead 65 = .ok (.iload 10, 2) := by decide +kernel
theorem dq_Wrd_roundHead_67 : decode kb_Wrd_roundHead 67 = .ok (.ifCond .eq 20, 3) := by decide +kernel
theorem dq_Wrd_roundHead_70 : decode kb_Wrd_roundHead 70 = .ok (.lload 8, 2) := by decide +kernel
theorem dq_Wrd_roundHead_72 : decode kb_Wrd_roundHead 72 = .ok (.iconst 1, 1) := by decide +kernel
theorem dq_Wrd_roundHead_73 : decode kb_Wrd_roundHead 73 = .ok (.lshl, 1) := by decide +kernel
theorem dq_Wrd_roundHead_74 : decode kb_Wrd_roundHead 74 = .ok (.lconst 0, 1) := by decide +kernel
theorem dq_Wrd_roundHead_75 : decode kb_Wrd_roundHead 75 = .ok (.lcmp, 1) := by decide +kernel
theorem dq_Wrd_roundHead_76 : decode kb_Wrd_roundHead 76 = .ok (.ifCond .ne 11, 3) := by decide +kernel
theorem dq_Wrd_roundHead_79 : decode kb_Wrd_roundHead 79 = .ok (.iload_n 2, 1) := by decide +kernel
theorem dq_Wrd_roundHead_80 : decode kb_Wrd_roundHead 80 = .ok (.ifCond .ne 7, 3) := by decide +kernel
theorem dq_Wrd_roundHead_83 : decode kb_Wrd_roundHead 83 = .ok (.iconst 1, 1) := by decide +kernel
theorem dq_Wrd_roundHead_84 : decode kb_Wrd_roundHead 84 = .ok (.goto 4, 3) := by decide +kernel
theorem dq_Wrd_roundHead_87 : decode kb_Wrd_roundHead 87 = .ok (.iconst 0, 1) := by decide +kernel
theorem dq_Wrd_roundHead_88 : decode kb_Wrd_roundHead 88 = .ok (.istore 11, 2) := by decide +kernel
theorem dq_Wrd_roundHead_90 : decode kb_Wrd_roundHead 90 = .ok (.iload 11, 2) := by decide +kernel
theorem dq_Wrd_roundHead_92 : decode kb_Wrd_roundHead 92 = .ok (.ifCond .eq 20, 3) := by decide +kernel
theorem dq_Wrd_roundHead_95 : decode kb_Wrd_roundHead 95 = .ok (.lload 6, 2) := by decide +kernel
theorem dq_Wrd_roundHead_97 : decode kb_Wrd_roundHead 97 = .ok (.lconst 1, 1) := by decide +kernel
theorem dq_Wrd_roundHead_98 : decode kb_Wrd_roundHead 98 = .ok (.land, 1) := by decide +kernel
theorem dq_Wrd_roundHead_99 : decode kb_Wrd_roundHead 99 = .ok (.lconst 1, 1) := by decide +kernel
theorem dq_Wrd_roundHead_100 : decode kb_Wrd_roundHead 100 = .ok (.lcmp, 1) := by decide +kernel
theorem dq_Wrd_roundHead_101 : decode kb_Wrd_roundHead 101 = .ok (.ifCond .ne 7, 3) := by decide +kernel
theorem dq_Wrd_roundHead_104 : decode kb_Wrd_roundHead 104 = .ok (.iconst 1, 1) := by decide +kernel
theorem dq_Wrd_roundHead_105 : decode kb_Wrd_roundHead 105 = .ok (.goto 9, 3) := by decide +kernel
theorem dq_Wrd_roundHead_108 : decode kb_Wrd_roundHead 108 = .ok (.iconst 0, 1) := by decide +kernel
theorem dq_Wrd_roundHead_109 : decode kb_Wrd_roundHead 109 = .ok (.goto 5, 3) := by decide +kernel
theorem dq_Wrd_roundHead_112 : decode kb_Wrd_roundHead 112 = .ok (.iload 10, 2) := by decide +kernel
theorem dq_Wrd_roundHead_114 : decode kb_Wrd_roundHead 114 = .ok (.istore 12, 2) := by decide +kernel
theorem dq_Wrd_roundHead_116 : decode kb_Wrd_roundHead 116 = .ok (.iload 4, 2) := by decide +kernel
theorem dq_Wrd_roundHead_118 : decode kb_Wrd_roundHead 118 = .ok (.sipush (-1074), 3) := by decide +kernel
theorem dq_Wrd_roundHead_121 : decode kb_Wrd_roundHead 121 = .ok (.isub, 1) := by decide +kernel
theorem dq_Wrd_roundHead_122 : decode kb_Wrd_roundHead 122 = .ok (.i2l, 1) := by decide +kernel
theorem dq_Wrd_roundHead_123 : decode kb_Wrd_roundHead 123 = .ok (.bipush 52, 2) := by decide +kernel
theorem dq_Wrd_roundHead_125 : decode kb_Wrd_roundHead 125 = .ok (.lshl, 1) := by decide +kernel
theorem dq_Wrd_roundHead_126 : decode kb_Wrd_roundHead 126 = .ok (.lload 6, 2) := by decide +kernel
theorem dq_Wrd_roundHead_128 : decode kb_Wrd_roundHead 128 = .ok (.ladd, 1) := by decide +kernel
theorem dq_Wrd_roundHead_129 : decode kb_Wrd_roundHead 129 = .ok (.iload 12, 2) := by decide +kernel
theorem dq_Wrd_roundHead_131 : decode kb_Wrd_roundHead 131 = .ok (.ifCond .eq 7, 3) := by decide +kernel
theorem dq_Wrd_roundHead_134 : decode kb_Wrd_roundHead 134 = .ok (.iconst 1, 1) := by decide +kernel
theorem dq_Wrd_roundHead_135 : decode kb_Wrd_roundHead 135 = .ok (.goto 4, 3) := by decide +kernel
theorem dq_Wrd_roundHead_138 : decode kb_Wrd_roundHead 138 = .ok (.iconst 0, 1) := by decide +kernel
theorem dq_Wrd_roundHead_139 : decode kb_Wrd_roundHead 139 = .ok (.i2l, 1) := by decide +kernel
theorem dq_Wrd_roundHead_140 : decode kb_Wrd_roundHead 140 = .ok (.ladd, 1) := by decide +kernel
theorem dq_Wrd_roundHead_141 : decode kb_Wrd_roundHead 141 = .ok (.lreturn, 1) := by decide +kernel
theorem dq_Wrd_firstThatIsNotZero_0 : decode kb_Wrd_firstThatIsNotZero 0 = .ok (.iconst 0, 1) := by decide +kernel
theorem dq_Wrd_firstThatIsNotZero_1 : decode kb_Wrd_firstThatIsNotZero 1 = .ok (.istore_n 2, 1) := by decide +kernel
theorem dq_Wrd_firstThatIsNotZero_2 : decode kb_Wrd_firstThatIsNotZero 2 = .ok (.iload_n 2, 1) := by decide +kernel
theorem dq_Wrd_firstThatIsNotZero_3 : decode kb_Wrd_firstThatIsNotZero 3 = .ok (.iload_n 1, 1) := by decide +kernel
theorem dq_Wrd_firstThatIsNotZero_4 : decode kb_Wrd_firstThatIsNotZero 4 = .ok (.if_icmp .ge 20, 3) := by decide +kernel
theorem dq_Wrd_firstThatIsNotZero_7 : decode kb_Wrd_firstThatIsNotZero 7 = .ok (.aload_n 0, 1) := by decide +kernel
theorem dq_Wrd_firstThatIsNotZero_8 : decode kb_Wrd_firstThatIsNotZero 8 = .ok (.getfield 11, 3) := by decide +kernel
theorem dq_Wrd_firstThatIsNotZero_11 : decode kb_Wrd_firstThatIsNotZero 11 = .ok (.iload_n 2, 1) := by decide +kernel
theorem dq_Wrd_firstThatIsNotZero_12 : decode kb_Wrd_firstThatIsNotZero 12 = .ok (.laload, 1) := by decide +kernel
theorem dq_Wrd_firstThatIsNotZero_13 : decode kb_Wrd_firstThatIsNotZero 13 = .ok (.lconst 0, 1) := by decide +kernel
theorem dq_Wrd_firstThatIsNotZero_14 : decode kb_Wrd_firstThatIsNotZero 14 = .ok (.lcmp, 1) := by decide +kernel
theorem dq_Wrd_firstThatIsNotZero_15 : decode kb_Wrd_firstThatIsNotZero 15 = .ok (.ifCond .ne 9, 3) := by decide +kernel
theorem dq_Wrd_firstThatIsNotZero_18 : decode kb_Wrd_firstThatIsNotZero 18 = .ok (.iinc 2 1, 3) := by decide +kernel
theorem dq_Wrd_firstThatIsNotZero_21 : decode kb_Wrd_firstThatIsNotZero 21 = .ok (.goto (-19), 3) := by decide +kernel
theorem dq_Wrd_firstThatIsNotZero_24 : decode kb_Wrd_firstThatIsNotZero 24 = .ok (.iload_n 2, 1) := by decide +kernel
theorem dq_Wrd_firstThatIsNotZero_25 : decode kb_Wrd_firstThatIsNotZero 25 = .ok (.ireturn, 1) := by decide +kernel
theorem dq_Wrd_isMoreFrom_0 : decode kb_Wrd_isMoreFrom 0 = .ok (.aload_n 0, 1) := by decide +kernel
theorem dq_Wrd_isMoreFrom_1 : decode kb_Wrd_isMoreFrom 1 = .ok (.getfield 38, 3) := by decide +kernel
theorem dq_Wrd_isMoreFrom_4 : decode kb_Wrd_isMoreFrom 4 = .ok (.istore_n 2, 1) := by decide +kernel
theorem dq_Wrd_isMoreFrom_5 : decode kb_Wrd_isMoreFrom 5 = .ok (.iload_n 1, 1) := by decide +kernel
theorem dq_Wrd_isMoreFrom_6 : decode kb_Wrd_isMoreFrom 6 = .ok (.istore_n 3, 1) := by decide +kernel
theorem dq_Wrd_isMoreFrom_7 : decode kb_Wrd_isMoreFrom 7 = .ok (.iload_n 3, 1) := by decide +kernel
theorem dq_Wrd_isMoreFrom_8 : decode kb_Wrd_isMoreFrom 8 = .ok (.bipush 67, 2) := by decide +kernel
theorem dq_Wrd_isMoreFrom_10 : decode kb_Wrd_isMoreFrom 10 = .ok (.if_icmp .ge 30, 3) := by decide +kernel
theorem dq_Wrd_isMoreFrom_13 : decode kb_Wrd_isMoreFrom 13 = .ok (.iload_n 2, 1) := by decide +kernel
theorem dq_Wrd_isMoreFrom_14 : decode kb_Wrd_isMoreFrom 14 = .ok (.ifCond .ne 26, 3) := by decide +kernel
theorem dq_Wrd_isMoreFrom_17 : decode kb_Wrd_isMoreFrom 17 = .ok (.aload_n 0, 1) := by decide +kernel
theorem dq_Wrd_isMoreFrom_18 : decode kb_Wrd_isMoreFrom 18 = .ok (.getfield 11, 3) := by decide +kernel
theorem dq_Wrd_isMoreFrom_21 : decode kb_Wrd_isMoreFrom 21 = .ok (.iload_n 3, 1) := by decide +kernel
theorem dq_Wrd_isMoreFrom_22 : decode kb_Wrd_isMoreFrom 22 = .ok (.laload, 1) := by decide +kernel
theorem dq_Wrd_isMoreFrom_23 : decode kb_Wrd_isMoreFrom 23 = .ok (.lconst 0, 1) := by decide +kernel
theorem dq_Wrd_isMoreFrom_24 : decode kb_Wrd_isMoreFrom 24 = .ok (.lcmp, 1) := by decide +kernel
theorem dq_Wrd_isMoreFrom_25 : decode kb_Wrd_isMoreFrom 25 = .ok (.ifCond .eq 7, 3) := by decide +kernel
theorem dq_Wrd_isMoreFrom_28 : decode kb_Wrd_isMoreFrom 28 = .ok (.iconst 1, 1) := by decide +kernel
theorem dq_Wrd_isMoreFrom_29 : decode kb_Wrd_isMoreFrom 29 = .ok (.goto 4, 3) := by decide +kernel
theorem dq_Wrd_isMoreFrom_32 : decode kb_Wrd_isMoreFrom 32 = .ok (.iconst 0, 1) := by decide +kernel
theorem dq_Wrd_isMoreFrom_33 : decode kb_Wrd_isMoreFrom 33 = .ok (.istore_n 2, 1) := by decide +kernel
theorem dq_Wrd_isMoreFrom_34 : decode kb_Wrd_isMoreFrom 34 = .ok (.iinc 3 1, 3) := by decide +kernel
theorem dq_Wrd_isMoreFrom_37 : decode kb_Wrd_isMoreFrom 37 = .ok (.goto (-30), 3) := by decide +kernel
theorem dq_Wrd_isMoreFrom_40 : decode kb_Wrd_isMoreFrom 40 = .ok (.iload_n 2, 1) := by decide +kernel
theorem dq_Wrd_isMoreFrom_41 : decode kb_Wrd_isMoreFrom 41 = .ok (.ireturn, 1) := by decide +kernel
end
section
abbrev dw (cI : ClassId) (h a len : Nat) (pl : Int) (f : Nat → Nat) : va_W := [oc h 0 [.ref a, vi (len : Nat), vi pl], ai cI a 800 f]
theorem c_Dec_beZero (cI cJ : ClassId) (h a len : Nat) (pl : Int) (f : Nat → Nat) : MtV cI cJ ky_Dec_beZero kb_Dec_beZero 1 rm_Dec_beZero Xt [.ref h] [oc h 0 [.ref a, vi ((len : Nat) : Int), vi pl], ai cI a 800 f] (fun u => u = dw cI h a 0 0 f) := by
  refine MtV_in (by decide) (Nat.le_of_ble_eq_true rfl) (fun K C hR hX hN => ?_)
  show V K 1 [oc h 0 [.ref a, vi ((len : Nat) : Int), vi pl], ai cI a 800 f] 0 0 0 [(0, .ref h)] []
  refine qv_aload_n C rfl dq_Dec_beZero_0 ?_
  refine qv_iconst C dq_Dec_beZero_1 ?_
  refine qv_put C (ws' := [oc h 0 [.ref a, vi 0, vi pl], ai cI a 800 f]) fl_Dec_15 fs_0_1 0 rfl rfl rfl (Nat.le_of_ble_eq_true rfl) rfl dq_Dec_beZero_2 ?_
  refine qv_aload_n C rfl dq_Dec_beZero_5 ?_
  refine qv_iconst C dq_Dec_beZero_6 ?_
  refine qv_put C (ws' := [oc h 0 [.ref a, vi 0, vi 0], ai cI a 800 f]) fl_Dec_19 fs_0_2 0 rfl rfl rfl (Nat.le_of_ble_eq_true rfl) rfl dq_Dec_beZero_7 ?_
  refine qv_vret C hR ?_ dq_Dec_beZero_10 (by decide) (by decide)
  rfl

theorem c_Dec_append (cI cJ : ClassId) (h a len : Nat) (pl : Int) (f : Nat → Nat) (d : Nat) (hl : len ≤ 800) : MtV cI cJ ky_Dec_append kb_Dec_append 2 rm_Dec_append Xt [.ref h, vi ((d : Nat) : Int)] [oc h 0 [.ref a, vi ((len : Nat) : Int), vi pl], ai cI a 800 f] (fun u => u = dw cI h a (apL len) pl (apF f len d)) := by
  refine MtV_in (by decide) (Nat.le_of_ble_eq_true rfl) (fun K C hR hX hN => ?_)
  show V K 2 [oc h 0 [.ref a, vi ((len : Nat) : Int), vi pl], ai cI a 800 f] 0 0 0 [(0, .ref h), (1, vi ((d : Nat) : Int))] []
  refine qv_aload_n C rfl dq_Dec_append_0 ?_
  refine qv_get C fl_Dec_15 0 rfl rfl dq_Dec_append_1 ?_
  refine qv_sipush C (by decide) dq_Dec_append_4 ?_
  refine qv_icge C (by omega) (by omega) (tgt := 30) (by decide) dq_Dec_append_7 (fun h7 => ?_) (fun h7 => ?_)
  · skip
    refine qv_vret C hR ?_ dq_Dec_append_30 (by decide) (by decide)
    show _ = dw _ _ _ _ _ _
    rw [apL_q (by omega), apF_q (by omega)]
  · skip
    refine qv_aload_n C rfl dq_Dec_append_10 ?_
    refine qv_get C fl_Dec_9 0 rfl rfl dq_Dec_append_11 ?_
    refine qv_aload_n C rfl dq_Dec_append_14 ?_
    refine qv_get C fl_Dec_15 0 rfl rfl dq_Dec_append_15 ?_
    refine qv_iload_n C rfl dq_Dec_append_18 ?_
    refine qv_iast C (ws' := [oc h 0 [.ref a, vi ((len : Nat) : Int), vi pl], ai cI a 800 (un f len d)]) 1 len d rfl (by omega) (by omega) (by decide) (by omega) rfl dq_Dec_append_19 ?_
    refine qv_aload_n C rfl dq_Dec_append_20 ?_
    refine qv_dup C rfl dq_Dec_append_21 ?_
    refine qv_get C fl_Dec_15 0 rfl rfl dq_Dec_append_22 ?_
    refine qv_iconst C dq_Dec_append_25 ?_
    refine qv_iadd C (r := (((len + 1) : Nat) : Int)) (by omega) dq_Dec_append_26 ?_
    refine qv_put C (ws' := [oc h 0 [.ref a, vi (((len + 1) : Nat) : Int), vi pl], ai cI a 800 (un f len d)]) fl_Dec_15 fs_0_1 0 rfl rfl rfl (Nat.le_of_ble_eq_true rfl) rfl dq_Dec_append_27 ?_
    refine qv_vret C hR ?_ dq_Dec_append_30 (by decide) (by decide)
    show _ = dw _ _ _ _ _ _
    rw [apL_p (by omega), apF_p (by omega)]

theorem c_Dec_goUp (cI cJ : ClassId) (h a len : Nat) (pl : Int) (f : Nat → Nat) (hl : len ≤ 800) (hf : ∀ i, f i ≤ 9) : MtV cI cJ ky_Dec_goUp kb_Dec_goUp 1 rm_Dec_goUp Xt [.ref h] [oc h 0 [.ref a, vi ((len : Nat) : Int), vi pl], ai cI a 800 f] (fun u => u = dw cI h a (upL f len) (upP f len pl) (upF f len)) := by
  refine MtV_in (by decide) (Nat.le_of_ble_eq_true rfl) (fun K C hR hX hN => ?_)
  show V K 1 [oc h 0 [.ref a, vi ((len : Nat) : Int), vi pl], ai cI a 800 f] 0 0 0 [(0, .ref h)] []
  have hle := dn_le f len
  have aft : ∀ l, dn f len = l → V K 1 [oc h 0 [.ref a, vi ((l : Nat) : Int), vi pl], ai cI a 800 f] 0 0 36 [(0, .ref h)] [] := by
    intro l hl2
    refine qv_aload_n C rfl dq_Dec_goUp_36 ?_
    refine qv_get C fl_Dec_15 0 rfl rfl dq_Dec_goUp_37 ?_
    refine qv_ifne C (by omega) (tgt := 68) (by decide) dq_Dec_goUp_40 (fun h40 => ?_) (fun h40 => ?_)
    · skip
      refine qv_aload_n C rfl dq_Dec_goUp_68 ?_
      refine qv_get C fl_Dec_9 0 rfl rfl dq_Dec_goUp_69 ?_
      refine qv_aload_n C rfl dq_Dec_goUp_72 ?_
      refine qv_get C fl_Dec_15 0 rfl rfl dq_Dec_goUp_73 ?_
      refine qv_iconst C dq_Dec_goUp_76 ?_
      refine qv_isub C (r := (((l - 1) : Nat) : Int)) (by omega) dq_Dec_goUp_77 ?_
      refine qv_dup2 C rfl rfl dq_Dec_goUp_78 ?_
      refine qv_iald C 1 (l - 1) rfl (by omega) (by omega) (by decide) dq_Dec_goUp_79 ?_
      refine qv_iconst C dq_Dec_goUp_80 ?_
      refine qv_iadd C (r := (((f (l - 1) + 1) : Nat) : Int)) (by omega) dq_Dec_goUp_81 ?_
      refine qv_iast C (ws' := [oc h 0 [.ref a, vi ((l : Nat) : Int), vi pl], ai cI a 800 (un f (l - 1) (f (l - 1) + 1))]) 1 (l - 1) (f (l - 1) + 1) rfl (by omega) (by omega) (by decide) (by omega) rfl dq_Dec_goUp_82 ?_
      refine qv_vret C hR ?_ dq_Dec_goUp_83 (by decide) (by decide)
      show _ = dw _ _ _ (upL f len) (upP f len pl) (upF f len)
      unfold upL upP upF
      by_cases q : dn f len = 0
      · rw [if_pos q, if_pos q, if_pos q] <;> first | rfl | (exfalso; omega)
      · rw [if_neg q, if_neg q, if_neg q, hl2] <;> first | rfl | (exfalso; omega)
    · skip
      refine qv_aload_n C rfl dq_Dec_goUp_43 ?_
      refine qv_get C fl_Dec_9 0 rfl rfl dq_Dec_goUp_44 ?_
      refine qv_iconst C dq_Dec_goUp_47 ?_
      refine qv_iconst C dq_Dec_goUp_48 ?_
      refine qv_iast C (ws' := [oc h 0 [.ref a, vi ((l : Nat) : Int), vi pl], ai cI a 800 (un f 0 1)]) 1 0 1 rfl (by omega) (by omega) (by decide) (by omega) rfl dq_Dec_goUp_49 ?_
      refine qv_aload_n C rfl dq_Dec_goUp_50 ?_
      refine qv_iconst C dq_Dec_goUp_51 ?_
      refine qv_put C (ws' := [oc h 0 [.ref a, vi 1, vi pl], ai cI a 800 (un f 0 1)]) fl_Dec_15 fs_0_1 0 rfl rfl rfl (Nat.le_of_ble_eq_true rfl) rfl dq_Dec_goUp_52 ?_
      refine qv_aload_n C rfl dq_Dec_goUp_55 ?_
      refine qv_dup C rfl dq_Dec_goUp_56 ?_
      refine qv_get C fl_Dec_19 0 rfl rfl dq_Dec_goUp_57 ?_
      refine qv_iconst C dq_Dec_goUp_60 ?_
      refine qv_iadd C (r := (pl + 1)) rfl dq_Dec_goUp_61 ?_
      refine qv_put C (ws' := [oc h 0 [.ref a, vi 1, vi (pl + 1)], ai cI a 800 (un f 0 1)]) fl_Dec_19 fs_0_2 0 rfl rfl rfl (Nat.le_of_ble_eq_true rfl) rfl dq_Dec_goUp_62 ?_
      refine qv_goto C (tgt := 83) (by decide) dq_Dec_goUp_65 ?_
      refine qv_vret C hR ?_ dq_Dec_goUp_83 (by decide) (by decide)
      show _ = dw _ _ _ (upL f len) (upP f len pl) (upF f len)
      unfold upL upP upF
      by_cases q : dn f len = 0
      · rw [if_pos q, if_pos q, if_pos q] <;> first | rfl | (exfalso; omega)
      · rw [if_neg q, if_neg q, if_neg q, hl2] <;> first | rfl | (exfalso; omega)
  have loop : ∀ l, l ≤ 800 → dn f l = dn f len → V K 1 [oc h 0 [.ref a, vi ((l : Nat) : Int), vi pl], ai cI a 800 f] 0 0 0 [(0, .ref h)] [] := by
    intro l
    induction l with
    | zero =>
      intro h1 h2
      refine qv_aload_n C rfl dq_Dec_goUp_0 ?_
      refine qv_get C fl_Dec_15 0 rfl rfl dq_Dec_goUp_1 ?_
      refine qv_ifle C (by omega) (tgt := 36) (by decide) dq_Dec_goUp_4 (fun h4 => ?_) (fun h4 => ?_)
      · skip
        exact aft _ h2.symm
      · exfalso; omega
    | succ l ih =>
      intro h1 h2
      have h9 := hf l
      refine qv_aload_n C rfl dq_Dec_goUp_0 ?_
      refine qv_get C fl_Dec_15 0 rfl rfl dq_Dec_goUp_1 ?_
      refine qv_ifle C (by omega) (tgt := 36) (by decide) dq_Dec_goUp_4 (fun h4 => ?_) (fun h4 => ?_)
      · exfalso; omega
      · skip
        refine qv_aload_n C rfl dq_Dec_goUp_7 ?_
        refine qv_get C fl_Dec_9 0 rfl rfl dq_Dec_goUp_8 ?_
        refine qv_aload_n C rfl dq_Dec_goUp_11 ?_
        refine qv_get C fl_Dec_15 0 rfl rfl dq_Dec_goUp_12 ?_
        refine qv_iconst C dq_Dec_goUp_15 ?_
        refine qv_isub C (r := ((l : Nat) : Int)) (by omega) dq_Dec_goUp_16 ?_
        refine qv_iald C 1 l rfl (by omega) (by omega) (by decide) dq_Dec_goUp_17 ?_
        refine qv_bipush C (by decide) dq_Dec_goUp_18 ?_
        refine qv_icne C (by omega) (by omega) (tgt := 36) (by decide) dq_Dec_goUp_20 (fun h20 => ?_) (fun h20 => ?_)
        · skip
          exact aft _ (by rw [← h2, dn_s1 (by omega)])
        · skip
          refine qv_aload_n C rfl dq_Dec_goUp_23 ?_
          refine qv_dup C rfl dq_Dec_goUp_24 ?_
          refine qv_get C fl_Dec_15 0 rfl rfl dq_Dec_goUp_25 ?_
          refine qv_iconst C dq_Dec_goUp_28 ?_
          refine qv_isub C (r := ((l : Nat) : Int)) (by omega) dq_Dec_goUp_29 ?_
          refine qv_put C (ws' := [oc h 0 [.ref a, vi ((l : Nat) : Int), vi pl], ai cI a 800 f]) fl_Dec_15 fs_0_1 0 rfl rfl rfl (Nat.le_of_ble_eq_true rfl) rfl dq_Dec_goUp_30 ?_
          refine qv_goto C (tgt := 0) (by decide) dq_Dec_goUp_33 ?_
          exact ih (by omega) (by rw [← h2, dn_s0 (by omega)])
  exact loop len hl rfl

theorem c_Dec_dropZerosAtEnd (cI cJ : ClassId) (h a len : Nat) (pl : Int) (f : Nat → Nat) (hl : len ≤ 800) (hf : ∀ i, f i ≤ 9) : MtV cI cJ ky_Dec_dropZerosAtEnd kb_Dec_dropZerosAtEnd 1 rm_Dec_dropZerosAtEnd Xt [.ref h] [oc h 0 [.ref a, vi ((len : Nat) : Int), vi pl], ai cI a 800 f] (fun u => u = dw cI h a (dz f len) (dnP f len pl) f) := by
  refine MtV_in (by decide) (Nat.le_of_ble_eq_true rfl) (fun K C hR hX hN => ?_)
  show V K 1 [oc h 0 [.ref a, vi ((len : Nat) : Int), vi pl], ai cI a 800 f] 0 0 0 [(0, .ref h)] []
  have hle := dz_le f len
  have aft : ∀ l, dz f len = l → V K 1 [oc h 0 [.ref a, vi ((l : Nat) : Int), vi pl], ai cI a 800 f] 0 0 34 [(0, .ref h)] [] := by
    intro l hl2
    refine qv_aload_n C rfl dq_Dec_dropZerosAtEnd_34 ?_
    refine qv_get C fl_Dec_15 0 rfl rfl dq_Dec_dropZerosAtEnd_35 ?_
    refine qv_ifne C (by omega) (tgt := 46) (by decide) dq_Dec_dropZerosAtEnd_38 (fun h38 => ?_) (fun h38 => ?_)
    · skip
      refine qv_vret C hR ?_ dq_Dec_dropZerosAtEnd_46 (by decide) (by decide)
      show _ = dw _ _ _ (dz f len) (dnP f len pl) f
      unfold dnP
      by_cases q : dz f len = 0
      · rw [if_pos q, q]
        first | (have e : l = 0 := by omega
                 subst e; rfl) | (exfalso; omega)
      · rw [if_neg q, hl2] <;> first | rfl | (exfalso; omega)
    · skip
      refine qv_aload_n C rfl dq_Dec_dropZerosAtEnd_41 ?_
      refine qv_iconst C dq_Dec_dropZerosAtEnd_42 ?_
      refine qv_put C (ws' := [oc h 0 [.ref a, vi ((l : Nat) : Int), vi 0], ai cI a 800 f]) fl_Dec_19 fs_0_2 0 rfl rfl rfl (Nat.le_of_ble_eq_true rfl) rfl dq_Dec_dropZerosAtEnd_43 ?_
      refine qv_vret C hR ?_ dq_Dec_dropZerosAtEnd_46 (by decide) (by decide)
      show _ = dw _ _ _ (dz f len) (dnP f len pl) f
      unfold dnP
      by_cases q : dz f len = 0
      · rw [if_pos q, q]
        first | (have e : l = 0 := by omega
                 subst e; rfl) | (exfalso; omega)
      · rw [if_neg q, hl2] <;> first | rfl | (exfalso; omega)
  have loop : ∀ l, l ≤ 800 → dz f l = dz f len → V K 1 [oc h 0 [.ref a, vi ((l : Nat) : Int), vi pl], ai cI a 800 f] 0 0 0 [(0, .ref h)] [] := by
    intro l
    induction l with
    | zero =>
      intro h1 h2
      refine qv_aload_n C rfl dq_Dec_dropZerosAtEnd_0 ?_
      refine qv_get C fl_Dec_15 0 rfl rfl dq_Dec_dropZerosAtEnd_1 ?_
      refine qv_ifle C (by omega) (tgt := 34) (by decide) dq_Dec_dropZerosAtEnd_4 (fun h4 => ?_) (fun h4 => ?_)
      · skip
        exact aft _ h2.symm
      · exfalso; omega
    | succ l ih =>
      intro h1 h2
      have h9 := hf l
      refine qv_aload_n C rfl dq_Dec_dropZerosAtEnd_0 ?_
      refine qv_get C fl_Dec_15 0 rfl rfl dq_Dec_dropZerosAtEnd_1 ?_
      refine qv_ifle C (by omega) (tgt := 34) (by decide) dq_Dec_dropZerosAtEnd_4 (fun h4 => ?_) (fun h4 => ?_)
      · exfalso; omega
      · skip
        refine qv_aload_n C rfl dq_Dec_dropZerosAtEnd_7 ?_
        refine qv_get C fl_Dec_9 0 rfl rfl dq_Dec_dropZerosAtEnd_8 ?_
        refine qv_aload_n C rfl dq_Dec_dropZerosAtEnd_11 ?_
        refine qv_get C fl_Dec_15 0 rfl rfl dq_Dec_dropZerosAtEnd_12 ?_
        refine qv_iconst C dq_Dec_dropZerosAtEnd_15 ?_
        refine qv_isub C (r := ((l : Nat) : Int)) (by omega) dq_Dec_dropZerosAtEnd_16 ?_
        refine qv_iald C 1 l rfl (by omega) (by omega) (by decide) dq_Dec_dropZerosAtEnd_17 ?_
        refine qv_ifne C (by omega) (tgt := 34) (by decide) dq_Dec_dropZerosAtEnd_18 (fun h18 => ?_) (fun h18 => ?_)
        · skip
          exact aft _ (by rw [← h2, dz_s1 (by omega)])
        · skip
          refine qv_aload_n C rfl dq_Dec_dropZerosAtEnd_21 ?_
          refine qv_dup C rfl dq_Dec_dropZerosAtEnd_22 ?_
          refine qv_get C fl_Dec_15 0 rfl rfl dq_Dec_dropZerosAtEnd_23 ?_
          refine qv_iconst C dq_Dec_dropZerosAtEnd_26 ?_
          refine qv_isub C (r := ((l : Nat) : Int)) (by omega) dq_Dec_dropZerosAtEnd_27 ?_
          refine qv_put C (ws' := [oc h 0 [.ref a, vi ((l : Nat) : Int), vi pl], ai cI a 800 f]) fl_Dec_15 fs_0_1 0 rfl rfl rfl (Nat.le_of_ble_eq_true rfl) rfl dq_Dec_dropZerosAtEnd_28 ?_
          refine qv_goto C (tgt := 0) (by decide) dq_Dec_dropZerosAtEnd_31 ?_
          exact ih (by omega) (by rw [← h2, dz_s0 (by omega)])
  exact loop len hl rfl

theorem c_Dec_settle (cI cJ : ClassId) (h a len : Nat) (pl : Int) (f : Nat → Nat) (up : Bool) (hl : len ≤ 800) (hf : ∀ i, f i ≤ 9) : MtV cI cJ ky_Dec_settle kb_Dec_settle 2 rm_Dec_settle Xt [.ref h, vi (b2 up)] [oc h 0 [.ref a, vi ((len : Nat) : Int), vi pl], ai cI a 800 f] (fun u => u = dw cI h a (if up = true then upL f len else dz f len) (if up = true then upP f len pl else dnP f len pl) (if up = true then upF f len else f)) := by
  refine MtV_in (by decide) (Nat.le_of_ble_eq_true rfl) (fun K C hR hX hN => ?_)
  show V K 2 [oc h 0 [.ref a, vi ((len : Nat) : Int), vi pl], ai cI a 800 f] 0 0 0 [(0, .ref h), (1, vi (b2 up))] []
  refine qv_iload_n C rfl dq_Dec_settle_0 ?_
  refine qv_ifeq C (rb_b2 up) (tgt := 11) (by decide) dq_Dec_settle_1 (fun h1 => ?_) (fun h1 => ?_)
  · skip
    have hup := b2_f h1
    refine qv_aload_n C rfl dq_Dec_settle_11 ?_
    refine qc_vV (wr := []) (st := []) C cl_Dec_42 cd_Dec_dropZerosAtEnd (c_Dec_dropZerosAtEnd cI cJ h a len pl f hl hf) (Xok_t K) Xbl_t [0, 1] [] rfl rfl (by decide) (by decide) (by decide) 0 rfl rfl rfl rfl rfl (Nat.le_of_ble_eq_true rfl) (by decide) (by decide) dq_Dec_settle_12 (fun u hu => ?_)
    obtain rfl := hu
    show V K 2 [oc h 0 [.ref a, vi ((dz f len : Nat) : Int), vi (dnP f len pl)], ai cI a 800 f] 0 0 15 [(0, .ref h), (1, vi (b2 up))] []
    refine qv_vret C hR ?_ dq_Dec_settle_15 (by decide) (by decide)
    show _ = dw _ _ _ _ _ _
    rw [hup]; rfl
  · skip
    have hup := b2_t h1
    refine qv_aload_n C rfl dq_Dec_settle_4 ?_
    refine qc_vV (wr := []) (st := []) C cl_Dec_39 cd_Dec_goUp (c_Dec_goUp cI cJ h a len pl f hl hf) (Xok_t K) Xbl_t [0, 1] [] rfl rfl (by decide) (by decide) (by decide) 0 rfl rfl rfl rfl rfl (Nat.le_of_ble_eq_true rfl) (by decide) (by decide) dq_Dec_settle_5 (fun u hu => ?_)
    obtain rfl := hu
    show V K 2 [oc h 0 [.ref a, vi ((upL f len : Nat) : Int), vi (upP f len pl)], ai cI a 800 (upF f len)] 0 0 8 [(0, .ref h), (1, vi (b2 up))] []
    refine qv_goto C (tgt := 15) (by decide) dq_Dec_settle_8 ?_
    refine qv_vret C hR ?_ dq_Dec_settle_15 (by decide) (by decide)
    show _ = dw _ _ _ _ _ _
    rw [hup]; rfl

theorem c_Dec_goesUpBehind (cI cJ : ClassId) (h a len : Nat) (pl : Int) (f : Nat → Nat) (n : Nat) (hl : len ≤ 800) (hf : ∀ i, f i ≤ 9) (hn : n < len) : MtI cI cJ ky_Dec_goesUpBehind kb_Dec_goesUpBehind 4 .boolean rm_Dec_goesUpBehind Xt [.ref h, vi ((n : Nat) : Int)] [oc h 0 [.ref a, vi ((len : Nat) : Int), vi pl], ai cI a 800 f] (fun z u => z = b2 (gu f len n) ∧ u = dw cI h a len pl f) := by
  refine MtI_in (by decide) (Nat.le_of_ble_eq_true rfl) (fun K C hR hX hN => ?_)
  show V K 4 [oc h 0 [.ref a, vi ((len : Nat) : Int), vi pl], ai cI a 800 f] 0 0 0 [(0, .ref h), (1, vi ((n : Nat) : Int))] []
  have h9 := hf n
  have h8 := hf (n - 1)
  refine qv_aload_n C rfl dq_Dec_goesUpBehind_0 ?_
  refine qv_get C fl_Dec_9 0 rfl rfl dq_Dec_goesUpBehind_1 ?_
  refine qv_iload_n C rfl dq_Dec_goesUpBehind_4 ?_
  refine qv_iald C 1 n rfl (by omega) (by omega) (by decide) dq_Dec_goesUpBehind_5 ?_
  refine qv_iconst C dq_Dec_goesUpBehind_6 ?_
  refine qv_iceq C (by omega) (by omega) (tgt := 26) (by decide) dq_Dec_goesUpBehind_7 (fun h7 => ?_) (fun h7 => ?_)
  · skip
    refine qv_iload_n C rfl dq_Dec_goesUpBehind_26 ?_
    refine qv_aload_n C rfl dq_Dec_goesUpBehind_27 ?_
    refine qv_get C fl_Dec_15 0 rfl rfl dq_Dec_goesUpBehind_28 ?_
    refine qv_iconst C dq_Dec_goesUpBehind_31 ?_
    refine qv_isub C (r := (((len - 1) : Nat) : Int)) (by omega) dq_Dec_goesUpBehind_32 ?_
    refine qv_icne C (by omega) (by omega) (tgt := 40) (by decide) dq_Dec_goesUpBehind_33 (fun h33 => ?_) (fun h33 => ?_)
    · skip
      refine qv_iconst C dq_Dec_goesUpBehind_40 ?_
      refine qv_istore_n C (lv' := [(2, vi 0), (0, .ref h), (1, vi ((n : Nat) : Int))]) (by decide) rfl dq_Dec_goesUpBehind_41 ?_
      refine qv_iload_n C rfl dq_Dec_goesUpBehind_42 ?_
      refine qv_ifeq C (by omega) (tgt := 59) (by decide) dq_Dec_goesUpBehind_43 (fun h43 => ?_) (fun h43 => ?_)
      · skip
        refine qv_iconst C dq_Dec_goesUpBehind_59 ?_
        refine qv_goto C (tgt := 64) (by decide) dq_Dec_goesUpBehind_60 ?_
        refine qv_istore_n C (lv' := [(3, vi 1), (2, vi 0), (0, .ref h), (1, vi ((n : Nat) : Int))]) (by decide) rfl dq_Dec_goesUpBehind_64 ?_
        refine qv_iload_n C rfl dq_Dec_goesUpBehind_65 ?_
        refine qv_ifeq C (by omega) (tgt := 73) (by decide) dq_Dec_goesUpBehind_66 (fun h66 => ?_) (fun h66 => ?_)
        · skip
          refine qv_iconst C dq_Dec_goesUpBehind_73 ?_
          refine qv_goto C (tgt := 78) (by decide) dq_Dec_goesUpBehind_74 ?_
          refine qv_zret (b := true) C hR ?_ dq_Dec_goesUpBehind_78 (by decide) (by decide)
          refine ⟨congrArg b2 ?_, rfl⟩
          unfold gu
          first | (exfalso; omega) | (rw [if_neg (by omega)]; simp <;> omega) | (rw [if_pos (by omega)]; simp <;> omega)
        · exfalso; omega
      · skip
        refine qv_aload_n C rfl dq_Dec_goesUpBehind_46 ?_
        refine qv_get C fl_Dec_9 0 rfl rfl dq_Dec_goesUpBehind_47 ?_
        refine qv_iload_n C rfl dq_Dec_goesUpBehind_50 ?_
        refine qv_iconst C dq_Dec_goesUpBehind_51 ?_
        refine qv_isub C (r := (((n - 1) : Nat) : Int)) (by omega) dq_Dec_goesUpBehind_52 ?_
        refine qv_iald C 1 (n - 1) rfl (by omega) (by omega) (by decide) dq_Dec_goesUpBehind_53 ?_
        refine qv_iconst C dq_Dec_goesUpBehind_54 ?_
        refine qv_irem C (r := (((f (n - 1) % 2) : Nat) : Int)) (by omega) (by omega) (by omega) (by omega) (by omega) dq_Dec_goesUpBehind_55 ?_
        refine qv_ifne C (by omega) (tgt := 63) (by decide) dq_Dec_goesUpBehind_56 (fun h56 => ?_) (fun h56 => ?_)
        · skip
          refine qv_iconst C dq_Dec_goesUpBehind_63 ?_
          refine qv_istore_n C (lv' := [(3, vi 0), (2, vi 0), (0, .ref h), (1, vi ((n : Nat) : Int))]) (by decide) rfl dq_Dec_goesUpBehind_64 ?_
          refine qv_iload_n C rfl dq_Dec_goesUpBehind_65 ?_
          refine qv_ifeq C (by omega) (tgt := 73) (by decide) dq_Dec_goesUpBehind_66 (fun h66 => ?_) (fun h66 => ?_)
          · skip
            refine qv_iconst C dq_Dec_goesUpBehind_73 ?_
            refine qv_goto C (tgt := 78) (by decide) dq_Dec_goesUpBehind_74 ?_
            refine qv_zret (b := true) C hR ?_ dq_Dec_goesUpBehind_78 (by decide) (by decide)
            refine ⟨congrArg b2 ?_, rfl⟩
            unfold gu
            first | (exfalso; omega) | (rw [if_neg (by omega)]; simp <;> omega) | (rw [if_pos (by omega)]; simp <;> omega)
          · exfalso; omega
        · skip
          refine qv_iconst C dq_Dec_goesUpBehind_59 ?_
          refine qv_goto C (tgt := 64) (by decide) dq_Dec_goesUpBehind_60 ?_
          refine qv_istore_n C (lv' := [(3, vi 1), (2, vi 0), (0, .ref h), (1, vi ((n : Nat) : Int))]) (by decide) rfl dq_Dec_goesUpBehind_64 ?_
          refine qv_iload_n C rfl dq_Dec_goesUpBehind_65 ?_
          refine qv_ifeq C (by omega) (tgt := 73) (by decide) dq_Dec_goesUpBehind_66 (fun h66 => ?_) (fun h66 => ?_)
          · skip
            refine qv_iconst C dq_Dec_goesUpBehind_73 ?_
            refine qv_goto C (tgt := 78) (by decide) dq_Dec_goesUpBehind_74 ?_
            refine qv_zret (b := true) C hR ?_ dq_Dec_goesUpBehind_78 (by decide) (by decide)
            refine ⟨congrArg b2 ?_, rfl⟩
            unfold gu
            first | (exfalso; omega) | (rw [if_neg (by omega)]; simp <;> omega) | (rw [if_pos (by omega)]; simp <;> omega)
          · exfalso; omega
    · skip
      refine qv_iconst C dq_Dec_goesUpBehind_36 ?_
      refine qv_goto C (tgt := 41) (by decide) dq_Dec_goesUpBehind_37 ?_
      refine qv_istore_n C (lv' := [(2, vi 1), (0, .ref h), (1, vi ((n : Nat) : Int))]) (by decide) rfl dq_Dec_goesUpBehind_41 ?_
      refine qv_iload_n C rfl dq_Dec_goesUpBehind_42 ?_
      refine qv_ifeq C (by omega) (tgt := 59) (by decide) dq_Dec_goesUpBehind_43 (fun h43 => ?_) (fun h43 => ?_)
      · skip
        refine qv_iconst C dq_Dec_goesUpBehind_59 ?_
        refine qv_goto C (tgt := 64) (by decide) dq_Dec_goesUpBehind_60 ?_
        refine qv_istore_n C (lv' := [(3, vi 1), (2, vi 1), (0, .ref h), (1, vi ((n : Nat) : Int))]) (by decide) rfl dq_Dec_goesUpBehind_64 ?_
        refine qv_iload_n C rfl dq_Dec_goesUpBehind_65 ?_
        refine qv_ifeq C (by omega) (tgt := 73) (by decide) dq_Dec_goesUpBehind_66 (fun h66 => ?_) (fun h66 => ?_)
        · exfalso; omega
        · skip
          refine qv_iload_n C rfl dq_Dec_goesUpBehind_69 ?_
          refine qv_ifne C (by omega) (tgt := 77) (by decide) dq_Dec_goesUpBehind_70 (fun h70 => ?_) (fun h70 => ?_)
          · skip
            refine qv_iconst C dq_Dec_goesUpBehind_77 ?_
            refine qv_zret (b := false) C hR ?_ dq_Dec_goesUpBehind_78 (by decide) (by decide)
            refine ⟨congrArg b2 ?_, rfl⟩
            unfold gu
            first | (exfalso; omega) | (rw [if_neg (by omega)]; simp <;> omega) | (rw [if_pos (by omega)]; simp <;> omega)
          · exfalso; omega
      · skip
        refine qv_aload_n C rfl dq_Dec_goesUpBehind_46 ?_
        refine qv_get C fl_Dec_9 0 rfl rfl dq_Dec_goesUpBehind_47 ?_
        refine qv_iload_n C rfl dq_Dec_goesUpBehind_50 ?_
        refine qv_iconst C dq_Dec_goesUpBehind_51 ?_
        refine qv_isub C (r := (((n - 1) : Nat) : Int)) (by omega) dq_Dec_goesUpBehind_52 ?_
        refine qv_iald C 1 (n - 1) rfl (by omega) (by omega) (by decide) dq_Dec_goesUpBehind_53 ?_
        refine qv_iconst C dq_Dec_goesUpBehind_54 ?_
        refine qv_irem C (r := (((f (n - 1) % 2) : Nat) : Int)) (by omega) (by omega) (by omega) (by omega) (by omega) dq_Dec_goesUpBehind_55 ?_
        refine qv_ifne C (by omega) (tgt := 63) (by decide) dq_Dec_goesUpBehind_56 (fun h56 => ?_) (fun h56 => ?_)
        · skip
          refine qv_iconst C dq_Dec_goesUpBehind_63 ?_
          refine qv_istore_n C (lv' := [(3, vi 0), (2, vi 1), (0, .ref h), (1, vi ((n : Nat) : Int))]) (by decide) rfl dq_Dec_goesUpBehind_64 ?_
          refine qv_iload_n C rfl dq_Dec_goesUpBehind_65 ?_
          refine qv_ifeq C (by omega) (tgt := 73) (by decide) dq_Dec_goesUpBehind_66 (fun h66 => ?_) (fun h66 => ?_)
          · exfalso; omega
          · skip
            refine qv_iload_n C rfl dq_Dec_goesUpBehind_69 ?_
            refine qv_ifne C (by omega) (tgt := 77) (by decide) dq_Dec_goesUpBehind_70 (fun h70 => ?_) (fun h70 => ?_)
            · exfalso; omega
            · skip
              refine qv_iconst C dq_Dec_goesUpBehind_73 ?_
              refine qv_goto C (tgt := 78) (by decide) dq_Dec_goesUpBehind_74 ?_
              refine qv_zret (b := true) C hR ?_ dq_Dec_goesUpBehind_78 (by decide) (by decide)
              refine ⟨congrArg b2 ?_, rfl⟩
              unfold gu
              first | (exfalso; omega) | (rw [if_neg (by omega)]; simp <;> omega) | (rw [if_pos (by omega)]; simp <;> omega)
        · skip
          refine qv_iconst C dq_Dec_goesUpBehind_59 ?_
          refine qv_goto C (tgt := 64) (by decide) dq_Dec_goesUpBehind_60 ?_
          refine qv_istore_n C (lv' := [(3, vi 1), (2, vi 1), (0, .ref h), (1, vi ((n : Nat) : Int))]) (by decide) rfl dq_Dec_goesUpBehind_64 ?_
          refine qv_iload_n C rfl dq_Dec_goesUpBehind_65 ?_
          refine qv_ifeq C (by omega) (tgt := 73) (by decide) dq_Dec_goesUpBehind_66 (fun h66 => ?_) (fun h66 => ?_)
          · exfalso; omega
          · skip
            refine qv_iload_n C rfl dq_Dec_goesUpBehind_69 ?_
            refine qv_ifne C (by omega) (tgt := 77) (by decide) dq_Dec_goesUpBehind_70 (fun h70 => ?_) (fun h70 => ?_)
            · skip
              refine qv_iconst C dq_Dec_goesUpBehind_77 ?_
              refine qv_zret (b := false) C hR ?_ dq_Dec_goesUpBehind_78 (by decide) (by decide)
              refine ⟨congrArg b2 ?_, rfl⟩
              unfold gu
              first | (exfalso; omega) | (rw [if_neg (by omega)]; simp <;> omega) | (rw [if_pos (by omega)]; simp <;> omega)
            · exfalso; omega
  · skip
    refine qv_aload_n C rfl dq_Dec_goesUpBehind_10 ?_
    refine qv_get C fl_Dec_9 0 rfl rfl dq_Dec_goesUpBehind_11 ?_
    refine qv_iload_n C rfl dq_Dec_goesUpBehind_14 ?_
    refine qv_iald C 1 n rfl (by omega) (by omega) (by decide) dq_Dec_goesUpBehind_15 ?_
    refine qv_iconst C dq_Dec_goesUpBehind_16 ?_
    refine qv_icle C (by omega) (by omega) (tgt := 24) (by decide) dq_Dec_goesUpBehind_17 (fun h17 => ?_) (fun h17 => ?_)
    · skip
      refine qv_iconst C dq_Dec_goesUpBehind_24 ?_
      refine qv_zret (b := false) C hR ?_ dq_Dec_goesUpBehind_25 (by decide) (by decide)
      refine ⟨congrArg b2 ?_, rfl⟩
      unfold gu
      first | (exfalso; omega) | (rw [if_neg (by omega)]; simp <;> omega) | (rw [if_pos (by omega)]; simp <;> omega)
    · skip
      refine qv_iconst C dq_Dec_goesUpBehind_20 ?_
      refine qv_goto C (tgt := 25) (by decide) dq_Dec_goesUpBehind_21 ?_
      refine qv_zret (b := true) C hR ?_ dq_Dec_goesUpBehind_25 (by decide) (by decide)
      refine ⟨congrArg b2 ?_, rfl⟩
      unfold gu
      first | (exfalso; omega) | (rw [if_neg (by omega)]; simp <;> omega) | (rw [if_pos (by omega)]; simp <;> omega)

theorem c_Dec_cutBehind (cI cJ : ClassId) (h a len : Nat) (pl : Int) (f : Nat → Nat) (z : Int) (hl : len ≤ 800) (hf : ∀ i, f i ≤ 9) (hz : ri z) : MtV cI cJ ky_Dec_cutBehind kb_Dec_cutBehind 3 rm_Dec_cutBehind Xt [.ref h, vi z] [oc h 0 [.ref a, vi ((len : Nat) : Int), vi pl], ai cI a 800 f] (fun u => u = dw cI h a (cL f len z) (cP f len z pl) (cF f len z)) := by
  refine MtV_in (by decide) (Nat.le_of_ble_eq_true rfl) (fun K C hR hX hN => ?_)
  show V K 3 [oc h 0 [.ref a, vi ((len : Nat) : Int), vi pl], ai cI a 800 f] 0 0 0 [(0, .ref h), (1, vi z)] []
  refine qv_iload_n C rfl dq_Dec_cutBehind_0 ?_
  refine qv_ifge C (by omega) (tgt := 11) (by decide) dq_Dec_cutBehind_1 (fun h1 => ?_) (fun h1 => ?_)
  · skip
    obtain ⟨n, rfl⟩ : ∃ n : Nat, z = (n : Int) := ⟨z.toNat, by omega⟩
    refine qv_iload_n C rfl dq_Dec_cutBehind_11 ?_
    refine qv_aload_n C rfl dq_Dec_cutBehind_12 ?_
    refine qv_get C fl_Dec_15 0 rfl rfl dq_Dec_cutBehind_13 ?_
    refine qv_icge C (by omega) (by omega) (tgt := 35) (by decide) dq_Dec_cutBehind_16 (fun h16 => ?_) (fun h16 => ?_)
    · skip
      refine qv_vret C hR ?_ dq_Dec_cutBehind_35 (by decide) (by decide)
      show _ = dw _ _ _ _ _ _
      rw [cL_ge (by omega), cP_ge (by omega), cF_ge (by omega)]
    · skip
      refine qv_aload_n C rfl dq_Dec_cutBehind_19 ?_
      refine qv_iload_n C rfl dq_Dec_cutBehind_20 ?_
      refine qc_vI (wr := []) (st := []) C cl_Dec_31 cd_Dec_goesUpBehind (c_Dec_goesUpBehind cI cJ h a len pl f n hl hf (by omega)) (Xok_t K) Xbl_t [0, 1] [] rfl rfl (by decide) (by decide) (by decide) 0 rfl rfl rfl rfl rfl (Nat.le_of_ble_eq_true rfl) (by decide) (by decide) dq_Dec_cutBehind_21 (fun z u hu => ?_)
      obtain ⟨rfl, rfl⟩ := hu
      show V K 3 [oc h 0 [.ref a, vi ((len : Nat) : Int), vi pl], ai cI a 800 f] 0 0 24 [(0, .ref h), (1, vi ((n : Nat) : Int))] [vi (b2 (gu f len n))]
      refine qv_istore_n C (lv' := [(2, vi (b2 (gu f len n))), (0, .ref h), (1, vi ((n : Nat) : Int))]) (by decide) rfl dq_Dec_cutBehind_24 ?_
      refine qv_aload_n C rfl dq_Dec_cutBehind_25 ?_
      refine qv_iload_n C rfl dq_Dec_cutBehind_26 ?_
      refine qv_put C (ws' := [oc h 0 [.ref a, vi ((n : Nat) : Int), vi pl], ai cI a 800 f]) fl_Dec_15 fs_0_1 0 rfl rfl rfl (Nat.le_of_ble_eq_true rfl) rfl dq_Dec_cutBehind_27 ?_
      refine qv_aload_n C rfl dq_Dec_cutBehind_30 ?_
      refine qv_iload_n C rfl dq_Dec_cutBehind_31 ?_
      refine qc_vV (wr := []) (st := []) C cl_Dec_35 cd_Dec_settle (c_Dec_settle cI cJ h a n pl f (gu f len n) (by omega) hf) (Xok_t K) Xbl_t [0, 1] [] rfl rfl (by decide) (by decide) (by decide) 0 rfl rfl rfl rfl rfl (Nat.le_of_ble_eq_true rfl) (by decide) (by decide) dq_Dec_cutBehind_32 (fun u hu => ?_)
      obtain rfl := hu
      show V K 3 [oc h 0 [.ref a, vi ((ctL f len n : Nat) : Int), vi (ctP f len n pl)], ai cI a 800 (ctF f len n)] 0 0 35 [(2, vi (b2 (gu f len n))), (0, .ref h), (1, vi ((n : Nat) : Int))] []
      refine qv_vret C hR ?_ dq_Dec_cutBehind_35 (by decide) (by decide)
      show _ = dw _ _ _ _ _ _
      rw [cL_n (by omega), cP_n (by omega), cF_n (by omega)]
  · skip
    have h1 : z < 0 := by omega
    refine qv_aload_n C rfl dq_Dec_cutBehind_4 ?_
    refine qc_vV (wr := []) (st := []) C cl_Dec_28 cd_Dec_beZero (c_Dec_beZero cI cJ h a len pl f) (Xok_t K) Xbl_t [0, 1] [] rfl rfl (by decide) (by decide) (by decide) 0 rfl rfl rfl rfl rfl (Nat.le_of_ble_eq_true rfl) (by decide) (by decide) dq_Dec_cutBehind_5 (fun u hu => ?_)
    obtain rfl := hu
    show V K 3 [oc h 0 [.ref a, vi 0, vi 0], ai cI a 800 f] 0 0 8 [(0, .ref h), (1, vi z)] []
    refine qv_goto C (tgt := 35) (by decide) dq_Dec_cutBehind_8 ?_
    refine qv_vret C hR ?_ dq_Dec_cutBehind_35 (by decide) (by decide)
    show _ = dw _ _ _ _ _ _
    rw [cL_neg h1, cP_neg h1, cF_neg h1]; rfl

theorem c_Dec_beStartOf (cI cJ : ClassId) (h a len : Nat) (pl : Int) (f : Nat → Nat) (h2 a2 l2 : Nat) (p2 : Int) (f2 : Nat → Nat) (n : Nat) (hn : n ≤ 800) : MtV cI cJ ky_Dec_beStartOf kb_Dec_beStartOf 3 rm_Dec_beStartOf Xt [.ref h, .ref h2, vi ((n : Nat) : Int)] [oc h 0 [.ref a, vi ((len : Nat) : Int), vi pl], ai cI a 800 f, oc h2 0 [.ref a2, vi ((l2 : Nat) : Int), vi p2], ai cI a2 800 f2] (fun u => u = dw cI h a n p2 (va_cpy f2 f 0 0 n) ++ dw cI h2 a2 l2 p2 f2) := by
  refine MtV_in (by decide) (Nat.le_of_ble_eq_true rfl) (fun K C hR hX hN => ?_)
  show V K 3 [oc h 0 [.ref a, vi ((len : Nat) : Int), vi pl], ai cI a 800 f, oc h2 0 [.ref a2, vi ((l2 : Nat) : Int), vi p2], ai cI a2 800 f2] 0 0 0 [(0, .ref h), (1, .ref h2), (2, vi ((n : Nat) : Int))] []
  refine qv_aload_n C rfl dq_Dec_beStartOf_0 ?_
  refine qv_get C fl_Dec_9 2 rfl rfl dq_Dec_beStartOf_1 ?_
  refine qv_iconst C dq_Dec_beStartOf_4 ?_
  refine qv_aload_n C rfl dq_Dec_beStartOf_5 ?_
  refine qv_get C fl_Dec_9 0 rfl rfl dq_Dec_beStartOf_6 ?_
  refine qv_iconst C dq_Dec_beStartOf_9 ?_
  refine qv_iload_n C rfl dq_Dec_beStartOf_10 ?_
  refine qv_copy C (ws' := [oc h 0 [.ref a, vi ((len : Nat) : Int), vi pl], ai cI a 800 (va_cpy f2 f 0 0 n), oc h2 0 [.ref a2, vi ((l2 : Nat) : Int), vi p2], ai cI a2 800 f2]) cl_Dec_22 wa_nat wa_sta wa_init 3 1 0 0 n rfl rfl (by omega) (by omega) (by omega) (by omega) (by omega) (by decide) (by decide) (by decide) (by decide) rfl dq_Dec_beStartOf_11 ?_
  refine qv_aload_n C rfl dq_Dec_beStartOf_14 ?_
  refine qv_iload_n C rfl dq_Dec_beStartOf_15 ?_
  refine qv_put C (ws' := [oc h 0 [.ref a, vi ((n : Nat) : Int), vi pl], ai cI a 800 (va_cpy f2 f 0 0 n), oc h2 0 [.ref a2, vi ((l2 : Nat) : Int), vi p2], ai cI a2 800 f2]) fl_Dec_15 fs_0_1 0 rfl rfl rfl (Nat.le_of_ble_eq_true rfl) rfl dq_Dec_beStartOf_16 ?_
  refine qv_aload_n C rfl dq_Dec_beStartOf_19 ?_
  refine qv_aload_n C rfl dq_Dec_beStartOf_20 ?_
  refine qv_get C fl_Dec_19 2 rfl rfl dq_Dec_beStartOf_21 ?_
  refine qv_put C (ws' := [oc h 0 [.ref a, vi ((n : Nat) : Int), vi p2], ai cI a 800 (va_cpy f2 f 0 0 n), oc h2 0 [.ref a2, vi ((l2 : Nat) : Int), vi p2], ai cI a2 800 f2]) fl_Dec_19 fs_0_2 0 rfl rfl rfl (Nat.le_of_ble_eq_true rfl) rfl dq_Dec_beStartOf_24 ?_
  refine qv_vret C hR ?_ dq_Dec_beStartOf_27 (by decide) (by decide)
  rfl
end
section
abbrev gw (cJ : ClassId) (g b fi en : Nat) (R : Nat → Nat) : va_W := [oc g 1 [.ref b, vi (fi : Nat), vi (en : Nat)], aj cJ b 160 R]
theorem c_JInt_compare (cI cJ : ClassId) (x y : Int) (hx : ri x) (hy : ri y) : MtI cI cJ ky_JInt_compare kb_JInt_compare 2 .int rm_JInt_compare Xt [vi x, vi y] [] (fun z u => z = (if x < y then -1 else if x = y then 0 else 1) ∧ u = []) := by
  refine MtI_in (by decide) (Nat.le_of_ble_eq_true rfl) (fun K C hR hX hN => ?_)
  show V K 2 [] 0 0 0 [(0, vi x), (1, vi y)] []
  refine qv_iload_n C rfl dq_JInt_compare_0 ?_
  refine qv_iload_n C rfl dq_JInt_compare_1 ?_
  refine qv_icge C (by omega) (by omega) (tgt := 9) (by decide) dq_JInt_compare_2 (fun h2 => ?_) (fun h2 => ?_)
  · skip
    refine qv_iload_n C rfl dq_JInt_compare_9 ?_
    refine qv_iload_n C rfl dq_JInt_compare_10 ?_
    refine qv_icne C (by omega) (by omega) (tgt := 18) (by decide) dq_JInt_compare_11 (fun h11 => ?_) (fun h11 => ?_)
    · skip
      refine qv_iconst C dq_JInt_compare_18 ?_
      refine qv_iret C hR ?_ dq_JInt_compare_19 (by decide) (by decide)
      refine ⟨?_, rfl⟩
      first | rw [if_pos (by omega)] | rw [if_neg (by omega), if_pos (by omega)] | rw [if_neg (by omega), if_neg (by omega)]
    · skip
      refine qv_iconst C dq_JInt_compare_14 ?_
      refine qv_goto C (tgt := 19) (by decide) dq_JInt_compare_15 ?_
      refine qv_iret C hR ?_ dq_JInt_compare_19 (by decide) (by decide)
      refine ⟨?_, rfl⟩
      first | rw [if_pos (by omega)] | rw [if_neg (by omega), if_pos (by omega)] | rw [if_neg (by omega), if_neg (by omega)]
  · skip
    refine qv_iconst C dq_JInt_compare_5 ?_
    refine qv_goto C (tgt := 19) (by decide) dq_JInt_compare_6 ?_
    refine qv_iret C hR ?_ dq_JInt_compare_19 (by decide) (by decide)
    refine ⟨?_, rfl⟩
    first | rw [if_pos (by omega)] | rw [if_neg (by omega), if_pos (by omega)] | rw [if_neg (by omega), if_neg (by omega)]

theorem c_JArr_fill (cI cJ : ClassId) (b n v : Nat) (f : Nat → Nat) (hn : n ≤ 2147483647) : MtV cI cJ ky_JArr_fill kb_JArr_fill 5 rm_JArr_fill Xt [.ref b, vj ((v : Nat) : Int)] [aj cJ b n f] (fun u => u = [aj cJ b n (fun _ => v)]) := by
  refine MtV_in (by decide) (Nat.le_of_ble_eq_true rfl) (fun K C hR hX hN => ?_)
  show V K 5 [aj cJ b n f] 0 0 0 [(0, .ref b), (1, vj ((v : Nat) : Int))] []
  have loop : ∀ k i, i + k = n → V K 5 [aj cJ b n (fl f v i)] 0 0 6 [(0, .ref b), (1, vj ((v : Nat) : Int)), (3, vi ((i : Nat) : Int)), (4, vi ((n : Nat) : Int))] [] := by
    intro k
    induction k with
    | zero =>
      intro i hi
      refine qv_iload_n C rfl dq_JArr_fill_6 ?_
      refine qv_iload C rfl dq_JArr_fill_7 ?_
      refine qv_icge C (by omega) (by omega) (tgt := 22) (by decide) dq_JArr_fill_9 (fun h9 => ?_) (fun h9 => ?_)
      · skip
        refine qv_cgj (cJ := cJ) (g := fun _ => v) (ws' := [aj cJ b n (fun _ => v)]) 0 rfl (fun j hj => if_pos (by omega)) rfl ?_
        refine qv_vret C hR ?_ dq_JArr_fill_22 (by decide) (by decide)
        rfl
      · exfalso; omega
    | succ k ih =>
      intro i hi
      refine qv_iload_n C rfl dq_JArr_fill_6 ?_
      refine qv_iload C rfl dq_JArr_fill_7 ?_
      refine qv_icge C (by omega) (by omega) (tgt := 22) (by decide) dq_JArr_fill_9 (fun h9 => ?_) (fun h9 => ?_)
      · exfalso; omega
      · skip
        refine qv_aload_n C rfl dq_JArr_fill_12 ?_
        refine qv_iload_n C rfl dq_JArr_fill_13 ?_
        refine qv_lload_n C rfl dq_JArr_fill_14 ?_
        refine qv_last C (ws' := [aj cJ b n (un (fl f v i) i v)]) 0 i v rfl (by omega) (by omega) (by omega) (by omega) rfl dq_JArr_fill_15 ?_
        refine qv_iinc C (j := 2) (lv' := [(3, vi (((i + 1) : Nat) : Int)), (0, .ref b), (1, vj ((v : Nat) : Int)), (4, vi ((n : Nat) : Int))]) (by omega) rfl (by decide) rfl dq_JArr_fill_16 ?_
        refine qv_goto C (tgt := 6) (by decide) dq_JArr_fill_19 ?_
        refine qv_lv [1, 2, 0, 3] (lv' := [(0, .ref b), (1, vj ((v : Nat) : Int)), (3, vi (((i + 1) : Nat) : Int)), (4, vi ((n : Nat) : Int))]) rfl ?_
        rw [fl_s]
        exact ih (i + 1) (by omega)
  refine qv_iconst C dq_JArr_fill_0 ?_
  refine qv_istore_n C (lv' := [(3, vi 0), (0, .ref b), (1, vj ((v : Nat) : Int))]) (by decide) rfl dq_JArr_fill_1 ?_
  refine qv_aload_n C rfl dq_JArr_fill_2 ?_
  refine qv_alenJ C 0 rfl dq_JArr_fill_3 ?_
  refine qv_istore C (lv' := [(4, vi ((n : Nat) : Int)), (3, vi 0), (0, .ref b), (1, vj ((v : Nat) : Int))]) (by decide) rfl dq_JArr_fill_4 ?_
  refine qv_lv [2, 3, 1, 0] (lv' := [(0, .ref b), (1, vj ((v : Nat) : Int)), (3, vi 0), (4, vi ((n : Nat) : Int))]) rfl ?_
  have l0 := loop n 0 (by omega)
  rw [fl_0] at l0
  exact l0

theorem c_Grp_placeOfFirst (cI cJ : ClassId) (g b fi en : Nat) (R : Nat → Nat) : MtI cI cJ ky_Grp_placeOfFirst kb_Grp_placeOfFirst 1 .int rm_Grp_placeOfFirst Xt [.ref g] [oc g 1 [.ref b, vi ((fi : Nat) : Int), vi ((en : Nat) : Int)], aj cJ b 160 R] (fun z u => z = (35 - (fi : Int)) * 9 ∧ u = gw cJ g b fi en R) := by
  refine MtI_in (by decide) (Nat.le_of_ble_eq_true rfl) (fun K C hR hX hN => ?_)
  show V K 1 [oc g 1 [.ref b, vi ((fi : Nat) : Int), vi ((en : Nat) : Int)], aj cJ b 160 R] 0 0 0 [(0, .ref g)] []
  refine qv_bipush C (by decide) dq_Grp_placeOfFirst_0 ?_
  refine qv_aload_n C rfl dq_Grp_placeOfFirst_2 ?_
  refine qv_get C fl_Grp_15 0 rfl rfl dq_Grp_placeOfFirst_3 ?_
  refine qv_isub C (r := (35 - ((fi : Nat) : Int))) rfl dq_Grp_placeOfFirst_6 ?_
  refine qv_bipush C (by decide) dq_Grp_placeOfFirst_7 ?_
  refine qv_imul C (r := ((35 - ((fi : Nat) : Int)) * 9)) rfl dq_Grp_placeOfFirst_9 ?_
  refine qv_iret C hR ?_ dq_Grp_placeOfFirst_10 (by decide) (by decide)
  exact ⟨rfl, rfl⟩

theorem c_Dec_against (cI cJ : ClassId) (h a h2 a2 l1 l2 : Nat) (p1 p2 : Int) (f1 f2 : Nat → Nat) (hk1 : Nrm f1 l1) (hk2 : Nrm f2 l2) (h01 : 0 < l1) (h02 : 0 < l2) (hl1 : l1 ≤ 800) (hl2 : l2 ≤ 800) (hf1 : ∀ i, f1 i ≤ 9) (hf2 : ∀ i, f2 i ≤ 9) (hp1 : -10000 ≤ p1 ∧ p1 ≤ 10000) (hp2 : -10000 ≤ p2 ∧ p2 ≤ 10000) (hq1 : (l1 : Int) ≤ p1 + 1200) (hq2 : (l2 : Int) ≤ p2 + 1200) : MtI cI cJ ky_Dec_against kb_Dec_against 4 .int rm_Dec_against Xt [.ref h, .ref h2] [oc h 0 [.ref a, vi ((l1 : Nat) : Int), vi p1], ai cI a 800 f1, oc h2 0 [.ref a2, vi ((l2 : Nat) : Int), vi p2], ai cI a2 800 f2] (fun z u => Cs z (sv 1200 f1 l1 p1) (sv 1200 f2 l2 p2) ∧ (-1 ≤ z ∧ z ≤ 1) ∧ u = dw cI h a l1 p1 f1 ++ dw cI h2 a2 l2 p2 f2) := by
  refine MtI_in (by decide) (Nat.le_of_ble_eq_true rfl) (fun K C hR hX hN => ?_)
  show V K 4 [oc h 0 [.ref a, vi ((l1 : Nat) : Int), vi p1], ai cI a 800 f1, oc h2 0 [.ref a2, vi ((l2 : Nat) : Int), vi p2], ai cI a2 800 f2] 0 0 0 [(0, .ref h), (1, .ref h2)] []
  have loop : p1 = p2 → ∀ k i, i + k = min l1 l2 → (∀ j, j < i → f1 j = f2 j) → V K 4 [oc h 0 [.ref a, vi ((l1 : Nat) : Int), vi p1], ai cI a 800 f1, oc h2 0 [.ref a2, vi ((l2 : Nat) : Int), vi p2], ai cI a2 800 f2] 0 0 37 [(0, .ref h), (1, .ref h2), (2, vi (((min l1 l2) : Nat) : Int)), (3, vi ((i : Nat) : Int))] [] := by
    intro hpp k
    induction k with
    | zero =>
      intro i hi hpre
      refine qv_iload_n C rfl dq_Dec_against_37 ?_
      refine qv_iload_n C rfl dq_Dec_against_38 ?_
      refine qv_icge C (by omega) (by omega) (tgt := 79) (by decide) dq_Dec_against_39 (fun h39 => ?_) (fun h39 => ?_)
      · skip
        refine qv_aload_n C rfl dq_Dec_against_79 ?_
        refine qv_get C fl_Dec_15 0 rfl rfl dq_Dec_against_80 ?_
        refine qv_aload_n C rfl dq_Dec_against_83 ?_
        refine qv_get C fl_Dec_15 2 rfl rfl dq_Dec_against_84 ?_
        refine qc_sI (wr := [oc h 0 [.ref a, vi ((l1 : Nat) : Int), vi p1], ai cI a 800 f1, oc h2 0 [.ref a2, vi ((l2 : Nat) : Int), vi p2], ai cI a2 800 f2]) (st := []) C cl_Dec_45 cd_JInt_compare (c_JInt_compare cI cJ ((l1 : Nat) : Int) ((l2 : Nat) : Int) (by omega) (by omega)) (Xok_t K) Xbl_t [] [0, 1, 2, 3] rfl rfl (by decide) (by decide) (by decide) rfl rfl (Nat.le_of_ble_eq_true rfl) (by decide) (by decide) dq_Dec_against_87 (fun z u hu => ?_)
        obtain ⟨rfl, rfl⟩ := hu
        show V K 4 [oc h 0 [.ref a, vi ((l1 : Nat) : Int), vi p1], ai cI a 800 f1, oc h2 0 [.ref a2, vi ((l2 : Nat) : Int), vi p2], ai cI a2 800 f2] 0 0 90 [(0, .ref h), (1, .ref h2), (2, vi (((min l1 l2) : Nat) : Int)), (3, vi ((i : Nat) : Int))] [vi (if ((l1 : Nat) : Int) < ((l2 : Nat) : Int) then -1 else if ((l1 : Nat) : Int) = ((l2 : Nat) : Int) then 0 else 1)]
        refine qv_iret C hR ?_ dq_Dec_against_90 (by decide) (by decide)
        refine ⟨?_, (by constructor <;> (repeat' split) <;> omega), rfl⟩
        subst hpp
        have hs : ∀ j, j < min l1 l2 → f1 j = f2 j := fun j hj => hpre j (by omega)
        by_cases q1 : l1 < l2
        · rw [if_pos (by omega)]
          exact Or.inl ⟨by omega, sv_pre q1 (fun j hj => hs j (by omega)) (by have := (hk2.2 h02).2; omega) (by omega)⟩
        · by_cases q2 : l1 = l2
          · rw [if_neg (by omega), if_pos (by omega)]
            subst q2
            exact Or.inr (Or.inl ⟨rfl, sv_eq (l := l1) (fun j hj => hs j (by omega))⟩)
          · rw [if_neg (by omega), if_neg (by omega)]
            exact Or.inr (Or.inr ⟨by omega, sv_pre (by omega) (fun j hj => (hs j (by omega)).symm) (by have := (hk1.2 h01).2; omega) (by omega)⟩)
      · exfalso; omega
    | succ k ih =>
      intro i hi hpre
      have b1 := hf1 i
      have b2 := hf2 i
      refine qv_iload_n C rfl dq_Dec_against_37 ?_
      refine qv_iload_n C rfl dq_Dec_against_38 ?_
      refine qv_icge C (by omega) (by omega) (tgt := 79) (by decide) dq_Dec_against_39 (fun h39 => ?_) (fun h39 => ?_)
      · exfalso; omega
      · skip
        refine qv_aload_n C rfl dq_Dec_against_42 ?_
        refine qv_get C fl_Dec_9 0 rfl rfl dq_Dec_against_43 ?_
        refine qv_iload_n C rfl dq_Dec_against_46 ?_
        refine qv_iald C 1 i rfl (by omega) (by omega) (by omega) dq_Dec_against_47 ?_
        refine qv_aload_n C rfl dq_Dec_against_48 ?_
        refine qv_get C fl_Dec_9 2 rfl rfl dq_Dec_against_49 ?_
        refine qv_iload_n C rfl dq_Dec_against_52 ?_
        refine qv_iald C 3 i rfl (by omega) (by omega) (by omega) dq_Dec_against_53 ?_
        refine qv_iceq C (by omega) (by omega) (tgt := 73) (by decide) dq_Dec_against_54 (fun h54 => ?_) (fun h54 => ?_)
        · skip
          refine qv_iinc C (j := 3) (lv' := [(3, vi (((i + 1) : Nat) : Int)), (0, .ref h), (1, .ref h2), (2, vi (((min l1 l2) : Nat) : Int))]) (by omega) rfl (by decide) rfl dq_Dec_against_73 ?_
          refine qv_goto C (tgt := 37) (by decide) dq_Dec_against_76 ?_
          refine qv_lv [1, 2, 3, 0] (lv' := [(0, .ref h), (1, .ref h2), (2, vi (((min l1 l2) : Nat) : Int)), (3, vi (((i + 1) : Nat) : Int))]) rfl ?_
          exact ih (i + 1) (by omega) (fun j hj => by
            by_cases q : j = i
            · rw [q]; omega
            · exact hpre j (by omega))
        · skip
          refine qv_aload_n C rfl dq_Dec_against_57 ?_
          refine qv_get C fl_Dec_9 0 rfl rfl dq_Dec_against_58 ?_
          refine qv_iload_n C rfl dq_Dec_against_61 ?_
          refine qv_iald C 1 i rfl (by omega) (by omega) (by omega) dq_Dec_against_62 ?_
          refine qv_aload_n C rfl dq_Dec_against_63 ?_
          refine qv_get C fl_Dec_9 2 rfl rfl dq_Dec_against_64 ?_
          refine qv_iload_n C rfl dq_Dec_against_67 ?_
          refine qv_iald C 3 i rfl (by omega) (by omega) (by omega) dq_Dec_against_68 ?_
          refine qc_sI (wr := [oc h 0 [.ref a, vi ((l1 : Nat) : Int), vi p1], ai cI a 800 f1, oc h2 0 [.ref a2, vi ((l2 : Nat) : Int), vi p2], ai cI a2 800 f2]) (st := []) C cl_Dec_45 cd_JInt_compare (c_JInt_compare cI cJ ((f1 i : Nat) : Int) ((f2 i : Nat) : Int) (by omega) (by omega)) (Xok_t K) Xbl_t [] [0, 1, 2, 3] rfl rfl (by decide) (by decide) (by decide) rfl rfl (Nat.le_of_ble_eq_true rfl) (by decide) (by decide) dq_Dec_against_69 (fun z u hu => ?_)
          obtain ⟨rfl, rfl⟩ := hu
          show V K 4 [oc h 0 [.ref a, vi ((l1 : Nat) : Int), vi p1], ai cI a 800 f1, oc h2 0 [.ref a2, vi ((l2 : Nat) : Int), vi p2], ai cI a2 800 f2] 0 0 72 [(0, .ref h), (1, .ref h2), (2, vi (((min l1 l2) : Nat) : Int)), (3, vi ((i : Nat) : Int))] [vi (if ((f1 i : Nat) : Int) < ((f2 i : Nat) : Int) then -1 else if ((f1 i : Nat) : Int) = ((f2 i : Nat) : Int) then 0 else 1)]
          refine qv_iret C hR ?_ dq_Dec_against_72 (by decide) (by decide)
          refine ⟨?_, (by constructor <;> (repeat' split) <;> omega), rfl⟩
          subst hpp
          have hs : ∀ j, j < i → f1 j = f2 j := hpre
          by_cases q1 : f1 i < f2 i
          · rw [if_pos (by omega)]
            exact Or.inl ⟨by omega, sv_dig hf1 (by omega) (by omega) (by omega) (by omega) hs q1⟩
          · rw [if_neg (by omega), if_neg (by omega)]
            exact Or.inr (Or.inr ⟨by omega, sv_dig hf2 (by omega) (by omega) (by omega) (by omega) (fun j hj => (hs j hj).symm) (by omega)⟩)
  refine qv_aload_n C rfl dq_Dec_against_0 ?_
  refine qv_get C fl_Dec_19 0 rfl rfl dq_Dec_against_1 ?_
  refine qv_aload_n C rfl dq_Dec_against_4 ?_
  refine qv_get C fl_Dec_19 2 rfl rfl dq_Dec_against_5 ?_
  refine qv_iceq C (by omega) (by omega) (tgt := 23) (by decide) dq_Dec_against_8 (fun h8 => ?_) (fun h8 => ?_)
  · skip
    refine qv_aload_n C rfl dq_Dec_against_23 ?_
    refine qv_get C fl_Dec_15 0 rfl rfl dq_Dec_against_24 ?_
    refine qv_aload_n C rfl dq_Dec_against_27 ?_
    refine qv_get C fl_Dec_15 2 rfl rfl dq_Dec_against_28 ?_
    refine qv_mmin (r := (((min l1 l2) : Nat) : Int)) C cl_Dec_51 wm_min_s wm_init wm_min_c (by omega) (by omega) (by decide) (Nat.le_of_ble_eq_true rfl) (by decide) (by decide) (by omega) dq_Dec_against_31 ?_
    refine qv_istore_n C (lv' := [(2, vi (((min l1 l2) : Nat) : Int)), (0, .ref h), (1, .ref h2)]) (by decide) rfl dq_Dec_against_34 ?_
    refine qv_iconst C dq_Dec_against_35 ?_
    refine qv_istore_n C (lv' := [(3, vi 0), (2, vi (((min l1 l2) : Nat) : Int)), (0, .ref h), (1, .ref h2)]) (by decide) rfl dq_Dec_against_36 ?_
    refine qv_lv [2, 3, 1, 0] (lv' := [(0, .ref h), (1, .ref h2), (2, vi (((min l1 l2) : Nat) : Int)), (3, vi 0)]) rfl ?_
    exact loop (by omega) (min l1 l2) 0 (by omega) (fun j hj => by omega)
  · skip
    refine qv_aload_n C rfl dq_Dec_against_11 ?_
    refine qv_get C fl_Dec_19 0 rfl rfl dq_Dec_against_12 ?_
    refine qv_aload_n C rfl dq_Dec_against_15 ?_
    refine qv_get C fl_Dec_19 2 rfl rfl dq_Dec_against_16 ?_
    refine qc_sI (wr := [oc h 0 [.ref a, vi ((l1 : Nat) : Int), vi p1], ai cI a 800 f1, oc h2 0 [.ref a2, vi ((l2 : Nat) : Int), vi p2], ai cI a2 800 f2]) (st := []) C cl_Dec_45 cd_JInt_compare (c_JInt_compare cI cJ p1 p2 (by omega) (by omega)) (Xok_t K) Xbl_t [] [0, 1, 2, 3] rfl rfl (by decide) (by decide) (by decide) rfl rfl (Nat.le_of_ble_eq_true rfl) (by decide) (by decide) dq_Dec_against_19 (fun z u hu => ?_)
    obtain ⟨rfl, rfl⟩ := hu
    show V K 4 [oc h 0 [.ref a, vi ((l1 : Nat) : Int), vi p1], ai cI a 800 f1, oc h2 0 [.ref a2, vi ((l2 : Nat) : Int), vi p2], ai cI a2 800 f2] 0 0 22 [(0, .ref h), (1, .ref h2)] [vi (if p1 < p2 then -1 else if p1 = p2 then 0 else 1)]
    refine qv_iret C hR ?_ dq_Dec_against_22 (by decide) (by decide)
    refine ⟨?_, (by constructor <;> (repeat' split) <;> omega), rfl⟩
    by_cases q1 : p1 < p2
    · rw [if_pos q1]
      exact Or.inl ⟨by omega, sv_place hk1 hk2 h02 hq1 hq2 q1⟩
    · rw [if_neg q1, if_neg (by omega)]
      exact Or.inr (Or.inr ⟨by omega, sv_place hk2 hk1 h01 hq2 hq1 (by omega)⟩)

theorem c_Dec_readGroup (cI cJ : ClassId) (h a len : Nat) (pl : Int) (f : Nat → Nat) (R : Nat → Nat) (s i x : Nat) (hR : R i < 1000000000) (hx : x = R i) (hi : i < 160) (hs : s ≤ 9 * i) (hRS : RS R s (9 * i) len pl f) : MtV cI cJ ky_Dec_readGroup kb_Dec_readGroup 6 rm_Dec_readGroup Xt [.ref h, vj ((x : Nat) : Int)] [oc h 0 [.ref a, vi ((len : Nat) : Int), vi pl], ai cI a 800 f] (fun u => ∃ (len2 : Nat) (pl2 : Int) (f2 : Nat → Nat), u = dw cI h a len2 pl2 f2 ∧ RS R s (9 * i + 9) len2 pl2 f2) := by
  refine MtV_in (by decide) (Nat.le_of_ble_eq_true rfl) (fun K C hR hX hN => ?_)
  show V K 6 [oc h 0 [.ref a, vi ((len : Nat) : Int), vi pl], ai cI a 800 f] 0 0 0 [(0, .ref h), (1, vj ((x : Nat) : Int))] []
  have loop : ∀ n k (len : Nat) (pl : Int) (f : Nat → Nat), k + n = 9 → RS R s (9 * i + k) len pl f → V K 6 [oc h 0 [.ref a, vi ((len : Nat) : Int), vi pl], ai cI a 800 f] 0 0 4 [(0, .ref h), (1, vj ((x : Nat) : Int)), (3, vj ((uk k : Nat) : Int))] [] := by
    intro n
    induction n with
    | zero =>
      intro k len pl f hk hRS
      have ek : k = 9 := by omega
      subst ek
      have u9 := uk_9
      refine qv_lload_n C rfl dq_Dec_readGroup_4 ?_
      refine qv_lconst C (z := 0) (by decide) dq_Dec_readGroup_5 ?_
      refine qv_lcle C (by omega) (by omega) dq_Dec_readGroup_6 (tgt := 60) (by decide) dq_Dec_readGroup_7 (fun h6 => ?_) (fun h6 => ?_)
      · skip
        refine qv_vret C hR ?_ dq_Dec_readGroup_60 (by decide) (by decide)
        exact ⟨len, pl, f, rfl, hRS⟩
      · exfalso; omega
    | succ n ih =>
      intro k len pl f hk hRS
      have u0 := uk_pos (show k < 9 by omega)
      have u1 := uk_le k
      have hlen := RS_len hRS
      have hd := uk_ge (R := R) (i := i) (show k < 9 by omega)
      rw [← hx] at hd
      obtain ⟨y, hy⟩ : ∃ y, y = x / uk k := ⟨_, rfl⟩
      have hyx : y ≤ x := by rw [hy]; exact Nat.div_le_self _ _
      rw [← hy] at hd
      have hd9 : y % 10 ≤ 9 := by omega
      refine qv_lload_n C rfl dq_Dec_readGroup_4 ?_
      refine qv_lconst C (z := 0) (by decide) dq_Dec_readGroup_5 ?_
      refine qv_lcle C (by omega) (by omega) dq_Dec_readGroup_6 (tgt := 60) (by decide) dq_Dec_readGroup_7 (fun h6 => ?_) (fun h6 => ?_)
      · exfalso; omega
      · skip
        refine qv_lload_n C rfl dq_Dec_readGroup_10 ?_
        refine qv_lload_n C rfl dq_Dec_readGroup_11 ?_
        refine qv_ldiv C (r := ((y : Nat) : Int)) (by omega) (by omega) (by omega) (by omega) (by rw [hy]; exact (Int.natCast_ediv _ _).symm) dq_Dec_readGroup_12 ?_
        refine qv_ldc2 C (z := 10) wk_Dec_78 dq_Dec_readGroup_13 ?_
        refine qv_lrem C (r := (((y % 10) : Nat) : Int)) (by omega) (by omega) (by omega) (by omega) (by omega) dq_Dec_readGroup_16 ?_
        refine qv_l2i C dq_Dec_readGroup_17 ?_
        refine qv_istore C (lv' := [(5, vi (((y % 10) : Nat) : Int)), (0, .ref h), (1, vj ((x : Nat) : Int)), (3, vj ((uk k : Nat) : Int))]) (by decide) rfl dq_Dec_readGroup_18 ?_
        refine qv_aload_n C rfl dq_Dec_readGroup_20 ?_
        refine qv_get C fl_Dec_15 0 rfl rfl dq_Dec_readGroup_21 ?_
        refine qv_ifne C (by omega) (tgt := 45) (by decide) dq_Dec_readGroup_24 (fun h24 => ?_) (fun h24 => ?_)
        · skip
          refine qv_aload_n C rfl dq_Dec_readGroup_45 ?_
          refine qv_iload C rfl dq_Dec_readGroup_46 ?_
          refine qc_vV (wr := []) (st := []) C cl_Dec_80 cd_Dec_append (c_Dec_append cI cJ h a len pl f (y % 10) hlen) (Xok_t K) Xbl_t [0, 1] [] rfl rfl (by decide) (by decide) (by decide) 0 rfl rfl rfl rfl rfl (Nat.le_of_ble_eq_true rfl) (by decide) (by decide) dq_Dec_readGroup_48 (fun u hu => ?_)
          obtain rfl := hu
          show V K 6 [oc h 0 [.ref a, vi ((apL len : Nat) : Int), vi pl], ai cI a 800 (apF f len (y % 10))] 0 0 51 [(5, vi (((y % 10) : Nat) : Int)), (0, .ref h), (1, vj ((x : Nat) : Int)), (3, vj ((uk k : Nat) : Int))] []
          refine qv_lload_n C rfl dq_Dec_readGroup_51 ?_
          refine qv_ldc2 C (z := 10) wk_Dec_78 dq_Dec_readGroup_52 ?_
          refine qv_ldiv C (r := ((uk (k + 1) : Nat) : Int)) (by omega) (by omega) (by omega) (by omega) (by rw [← uk_s]; omega) dq_Dec_readGroup_55 ?_
          refine qv_lstore_n C (lv' := [(3, vj ((uk (k + 1) : Nat) : Int)), (5, vi (((y % 10) : Nat) : Int)), (0, .ref h), (1, vj ((x : Nat) : Int))]) (by decide) rfl dq_Dec_readGroup_56 ?_
          refine qv_goto C (tgt := 4) (by decide) dq_Dec_readGroup_57 ?_
          refine qv_lv [2, 3, 0] (lv' := [(0, .ref h), (1, vj ((x : Nat) : Int)), (3, vj ((uk (k + 1) : Nat) : Int))]) rfl ?_
          exact ih (k + 1) _ _ _ (by omega) (by rw [hd]; exact RS_ap (j := 9 * i + k) (by omega) hRS (by omega))
        · skip
          refine qv_iload C rfl dq_Dec_readGroup_27 ?_
          refine qv_ifne C (by omega) (tgt := 45) (by decide) dq_Dec_readGroup_29 (fun h29 => ?_) (fun h29 => ?_)
          · skip
            refine qv_aload_n C rfl dq_Dec_readGroup_45 ?_
            refine qv_iload C rfl dq_Dec_readGroup_46 ?_
            refine qc_vV (wr := []) (st := []) C cl_Dec_80 cd_Dec_append (c_Dec_append cI cJ h a len pl f (y % 10) hlen) (Xok_t K) Xbl_t [0, 1] [] rfl rfl (by decide) (by decide) (by decide) 0 rfl rfl rfl rfl rfl (Nat.le_of_ble_eq_true rfl) (by decide) (by decide) dq_Dec_readGroup_48 (fun u hu => ?_)
            obtain rfl := hu
            show V K 6 [oc h 0 [.ref a, vi ((apL len : Nat) : Int), vi pl], ai cI a 800 (apF f len (y % 10))] 0 0 51 [(5, vi (((y % 10) : Nat) : Int)), (0, .ref h), (1, vj ((x : Nat) : Int)), (3, vj ((uk k : Nat) : Int))] []
            refine qv_lload_n C rfl dq_Dec_readGroup_51 ?_
            refine qv_ldc2 C (z := 10) wk_Dec_78 dq_Dec_readGroup_52 ?_
            refine qv_ldiv C (r := ((uk (k + 1) : Nat) : Int)) (by omega) (by omega) (by omega) (by omega) (by rw [← uk_s]; omega) dq_Dec_readGroup_55 ?_
            refine qv_lstore_n C (lv' := [(3, vj ((uk (k + 1) : Nat) : Int)), (5, vi (((y % 10) : Nat) : Int)), (0, .ref h), (1, vj ((x : Nat) : Int))]) (by decide) rfl dq_Dec_readGroup_56 ?_
            refine qv_goto C (tgt := 4) (by decide) dq_Dec_readGroup_57 ?_
            refine qv_lv [2, 3, 0] (lv' := [(0, .ref h), (1, vj ((x : Nat) : Int)), (3, vj ((uk (k + 1) : Nat) : Int))]) rfl ?_
            exact ih (k + 1) _ _ _ (by omega) (by rw [hd]; exact RS_ap (j := 9 * i + k) (by omega) hRS (by omega))
          · skip
            refine qv_aload_n C rfl dq_Dec_readGroup_32 ?_
            refine qv_dup C rfl dq_Dec_readGroup_33 ?_
            refine qv_get C fl_Dec_19 0 rfl rfl dq_Dec_readGroup_34 ?_
            refine qv_iconst C dq_Dec_readGroup_37 ?_
            refine qv_isub C (r := (pl - 1)) rfl dq_Dec_readGroup_38 ?_
            refine qv_put C (ws' := [oc h 0 [.ref a, vi ((len : Nat) : Int), vi (pl - 1)], ai cI a 800 f]) fl_Dec_19 fs_0_2 0 rfl rfl rfl (Nat.le_of_ble_eq_true rfl) rfl dq_Dec_readGroup_39 ?_
            refine qv_goto C (tgt := 51) (by decide) dq_Dec_readGroup_42 ?_
            refine qv_lload_n C rfl dq_Dec_readGroup_51 ?_
            refine qv_ldc2 C (z := 10) wk_Dec_78 dq_Dec_readGroup_52 ?_
            refine qv_ldiv C (r := ((uk (k + 1) : Nat) : Int)) (by omega) (by omega) (by omega) (by omega) (by rw [← uk_s]; omega) dq_Dec_readGroup_55 ?_
            refine qv_lstore_n C (lv' := [(3, vj ((uk (k + 1) : Nat) : Int)), (5, vi (((y % 10) : Nat) : Int)), (0, .ref h), (1, vj ((x : Nat) : Int))]) (by decide) rfl dq_Dec_readGroup_56 ?_
            refine qv_goto C (tgt := 4) (by decide) dq_Dec_readGroup_57 ?_
            refine qv_lv [2, 3, 0] (lv' := [(0, .ref h), (1, vj ((x : Nat) : Int)), (3, vj ((uk (k + 1) : Nat) : Int))]) rfl ?_
            have el : len = 0 := by omega
            subst el
            exact ih (k + 1) _ _ _ (by omega) (RS_skip (j := 9 * i + k) hRS (by omega))
  refine qv_ldc2 C (z := 100000000) wk_Dec_76 dq_Dec_readGroup_0 ?_
  refine qv_lstore_n C (lv' := [(3, vj 100000000), (0, .ref h), (1, vj ((x : Nat) : Int))]) (by decide) rfl dq_Dec_readGroup_3 ?_
  refine qv_lv [1, 2, 0] (lv' := [(0, .ref h), (1, vj ((x : Nat) : Int)), (3, vj 100000000)]) rfl ?_
  exact loop 9 0 len pl f rfl hRS

theorem c_Dec_read (cI cJ : ClassId) (h a len : Nat) (pl : Int) (f : Nat → Nat) (g b fi en : Nat) (R : Nat → Nat) (hf : ∀ i, f i ≤ 9) (hG : Gd R fi en) (hno : ∀ j0, ge R j0 ≠ 0 → (∀ i, i < j0 → ge R i = 0) → 9 * en ≤ j0 + 800) : MtV cI cJ ky_Dec_read kb_Dec_read 3 rm_Dec_read Xt [.ref h, .ref g] [oc h 0 [.ref a, vi ((len : Nat) : Int), vi pl], ai cI a 800 f, oc g 1 [.ref b, vi ((fi : Nat) : Int), vi ((en : Nat) : Int)], aj cJ b 160 R] (fun u => ∃ (len2 : Nat) (pl2 : Int) (f2 : Nat → Nat), u = dw cI h a len2 pl2 f2 ++ gw cJ g b fi en R ∧ Rd R len2 pl2 f2) := by
  refine MtV_in (by decide) (Nat.le_of_ble_eq_true rfl) (fun K C hR hX hN => ?_)
  show V K 3 [oc h 0 [.ref a, vi ((len : Nat) : Int), vi pl], ai cI a 800 f, oc g 1 [.ref b, vi ((fi : Nat) : Int), vi ((en : Nat) : Int)], aj cJ b 160 R] 0 0 0 [(0, .ref h), (1, .ref g)] []
  obtain ⟨g1, g2, g3, g4, g5⟩ := id hG
  have loop : ∀ k i (len : Nat) (pl : Int) (f : Nat → Nat), i + k = max fi en → fi ≤ i → RS R (9 * fi) (9 * i) len pl f → V K 3 [oc g 1 [.ref b, vi ((fi : Nat) : Int), vi ((en : Nat) : Int)], aj cJ b 160 R, oc h 0 [.ref a, vi ((len : Nat) : Int), vi pl], ai cI a 800 f] 0 0 18 [(0, .ref h), (1, .ref g), (2, vi ((i : Nat) : Int))] [] := by
    intro k
    induction k with
    | zero =>
      intro i len pl f hi hfi hRS
      refine qv_iload_n C rfl dq_Dec_read_18 ?_
      refine qv_aload_n C rfl dq_Dec_read_19 ?_
      refine qv_get C fl_Dec_65 0 rfl rfl dq_Dec_read_20 ?_
      refine qv_icge C (by omega) (by omega) (tgt := 42) (by decide) dq_Dec_read_23 (fun h23 => ?_) (fun h23 => ?_)
      · skip
        refine qv_aload_n C rfl dq_Dec_read_42 ?_
        refine qc_vV (wr := [oc g 1 [.ref b, vi ((fi : Nat) : Int), vi ((en : Nat) : Int)], aj cJ b 160 R]) (st := []) C cl_Dec_42 cd_Dec_dropZerosAtEnd (c_Dec_dropZerosAtEnd cI cJ h a len pl f (RS_len hRS) hRS.1) (Xok_t K) Xbl_t [2, 3] [0, 1] rfl rfl (by decide) (by decide) (by decide) 0 rfl rfl rfl rfl rfl (Nat.le_of_ble_eq_true rfl) (by decide) (by decide) dq_Dec_read_43 (fun u hu => ?_)
        obtain rfl := hu
        show V K 3 [oc g 1 [.ref b, vi ((fi : Nat) : Int), vi ((en : Nat) : Int)], aj cJ b 160 R, oc h 0 [.ref a, vi ((dz f len : Nat) : Int), vi (dnP f len pl)], ai cI a 800 f] 0 0 46 [(0, .ref h), (1, .ref g), (2, vi ((i : Nat) : Int))] []
        refine qv_ws [2, 3, 0, 1] (ws' := [oc h 0 [.ref a, vi ((dz f len : Nat) : Int), vi (dnP f len pl)], ai cI a 800 f, oc g 1 [.ref b, vi ((fi : Nat) : Int), vi ((en : Nat) : Int)], aj cJ b 160 R]) (by decide) rfl ?_
        refine qv_vret C hR ?_ dq_Dec_read_46 (by decide) (by decide)
        exact ⟨_, _, _, rfl, Rd_of hG (by omega) hRS hno⟩
      · exfalso; omega
    | succ k ih =>
      intro i len pl f hi hfi hRS
      refine qv_iload_n C rfl dq_Dec_read_18 ?_
      refine qv_aload_n C rfl dq_Dec_read_19 ?_
      refine qv_get C fl_Dec_65 0 rfl rfl dq_Dec_read_20 ?_
      refine qv_icge C (by omega) (by omega) (tgt := 42) (by decide) dq_Dec_read_23 (fun h23 => ?_) (fun h23 => ?_)
      · exfalso; omega
      · skip
        refine qv_aload_n C rfl dq_Dec_read_26 ?_
        refine qv_aload_n C rfl dq_Dec_read_27 ?_
        refine qv_get C fl_Dec_68 0 rfl rfl dq_Dec_read_28 ?_
        refine qv_iload_n C rfl dq_Dec_read_31 ?_
        refine qv_lald C 1 i rfl (by omega) (by omega) (by omega) dq_Dec_read_32 ?_
        refine qc_vV (wr := [oc g 1 [.ref b, vi ((fi : Nat) : Int), vi ((en : Nat) : Int)], aj cJ b 160 R]) (st := []) C cl_Dec_72 cd_Dec_readGroup (c_Dec_readGroup cI cJ h a len pl f R (9 * fi) i (R i) (hG.1 i) rfl (by omega) (by omega) hRS) (Xok_t K) Xbl_t [2, 3] [0, 1] rfl rfl (by decide) (by decide) (by decide) 0 rfl rfl rfl rfl rfl (Nat.le_of_ble_eq_true rfl) (by decide) (by decide) dq_Dec_read_33 (fun u hu => ?_)
        obtain ⟨len2, pl2, f2, rfl, hRS2⟩ := hu
        show V K 3 [oc g 1 [.ref b, vi ((fi : Nat) : Int), vi ((en : Nat) : Int)], aj cJ b 160 R, oc h 0 [.ref a, vi ((len2 : Nat) : Int), vi pl2], ai cI a 800 f2] 0 0 36 [(0, .ref h), (1, .ref g), (2, vi ((i : Nat) : Int))] []
        refine qv_iinc C (j := 2) (lv' := [(2, vi (((i + 1) : Nat) : Int)), (0, .ref h), (1, .ref g)]) (by omega) rfl (by decide) rfl dq_Dec_read_36 ?_
        refine qv_goto C (tgt := 18) (by decide) dq_Dec_read_39 ?_
        refine qv_lv [1, 2, 0] (lv' := [(0, .ref h), (1, .ref g), (2, vi (((i + 1) : Nat) : Int))]) rfl ?_
        exact ih (i + 1) len2 pl2 f2 (by omega) (by omega) hRS2
  refine qv_aload_n C rfl dq_Dec_read_0 ?_
  refine qv_iconst C dq_Dec_read_1 ?_
  refine qv_put C (ws' := [oc h 0 [.ref a, vi 0, vi pl], ai cI a 800 f, oc g 1 [.ref b, vi ((fi : Nat) : Int), vi ((en : Nat) : Int)], aj cJ b 160 R]) fl_Dec_15 fs_0_1 0 rfl rfl rfl (Nat.le_of_ble_eq_true rfl) rfl dq_Dec_read_2 ?_
  refine qv_aload_n C rfl dq_Dec_read_5 ?_
  refine qv_aload_n C rfl dq_Dec_read_6 ?_
  refine qc_vI (wr := [oc h 0 [.ref a, vi 0, vi pl], ai cI a 800 f]) (st := [.ref h]) C cl_Dec_56 cd_Grp_placeOfFirst (c_Grp_placeOfFirst cI cJ g b fi en R) (Xok_t K) Xbl_t [2, 3] [0, 1] rfl rfl (by decide) (by decide) (by decide) 0 rfl rfl rfl rfl rfl (Nat.le_of_ble_eq_true rfl) (by decide) (by decide) dq_Dec_read_7 (fun z u hu => ?_)
  obtain ⟨rfl, rfl⟩ := hu
  show V K 3 [oc h 0 [.ref a, vi 0, vi pl], ai cI a 800 f, oc g 1 [.ref b, vi ((fi : Nat) : Int), vi ((en : Nat) : Int)], aj cJ b 160 R] 0 0 10 [(0, .ref h), (1, .ref g)] [vi ((35 - ((fi : Nat) : Int)) * 9), .ref h]
  refine qv_put C (ws' := [oc h 0 [.ref a, vi 0, vi ((35 - ((fi : Nat) : Int)) * 9)], ai cI a 800 f, oc g 1 [.ref b, vi ((fi : Nat) : Int), vi ((en : Nat) : Int)], aj cJ b 160 R]) fl_Dec_19 fs_0_2 0 rfl rfl rfl (Nat.le_of_ble_eq_true rfl) rfl dq_Dec_read_10 ?_
  refine qv_aload_n C rfl dq_Dec_read_13 ?_
  refine qv_get C fl_Dec_62 2 rfl rfl dq_Dec_read_14 ?_
  refine qv_istore_n C (lv' := [(2, vi ((fi : Nat) : Int)), (0, .ref h), (1, .ref g)]) (by decide) rfl dq_Dec_read_17 ?_
  refine qv_ws [2, 3, 0, 1] (ws' := [oc g 1 [.ref b, vi ((fi : Nat) : Int), vi ((en : Nat) : Int)], aj cJ b 160 R, oc h 0 [.ref a, vi 0, vi ((35 - ((fi : Nat) : Int)) * 9)], ai cI a 800 f]) (by decide) rfl ?_
  refine qv_lv [1, 2, 0] (lv' := [(0, .ref h), (1, .ref g), (2, vi ((fi : Nat) : Int))]) rfl ?_
  refine qv_eq (loop (max fi en - fi) fi 0 ((35 - (fi : Int)) * 9) f (by omega) (Nat.le_refl _) ?_) rfl rfl rfl
  have e : (35 - (fi : Int)) * 9 = 315 - ((9 * fi : Nat) : Int) := by omega
  rw [e]
  exact RS_0 R (9 * fi) f hf
end
section
theorem c_Grp_multiply (cI cJ : ClassId) (g b fi en : Nat) (R : Nat → Nat) (fr bt : Nat) (hG : Gd R fi en) (hfr : fr ≤ 160) (hbt : bt ≤ 32) : MtJ cI cJ ky_Grp_multiply kb_Grp_multiply 8 rm_Grp_multiply Xt [.ref g, vi ((fr : Nat) : Int), vi ((bt : Nat) : Int)] [oc g 1 [.ref b, vi ((fi : Nat) : Int), vi ((en : Nat) : Int)], aj cJ b 160 R] (fun z u => ∃ (R2 : Nat → Nat) (fi2 en2 o : Nat), z = ((o : Nat) : Int) ∧ u = gw cJ g b fi2 en2 R2 ∧ Mpo fr R fi en (2 ^ bt) R2 fi2 en2 o) := by
  refine MtJ_in (by decide) (Nat.le_of_ble_eq_true rfl) (fun K C hR hX hN => ?_)
  show V K 8 [oc g 1 [.ref b, vi ((fi : Nat) : Int), vi ((en : Nat) : Int)], aj cJ b 160 R] 0 0 0 [(0, .ref g), (1, vi ((fr : Nat) : Int)), (2, vi ((bt : Nat) : Int))] []
  obtain ⟨g1, g2, g3, g4, g5⟩ := id hG
  have hz0 : 0 < 2 ^ bt := Nat.pow_pos (by omega)
  have hz32 : 2 ^ bt ≤ 4294967296 := Nat.le_trans (Nat.pow_le_pow_right (by omega) hbt) (by decide)
  have trim : ∀ (R2 : Nat → Nat) (fi2 o : Nat), (∀ i, R2 i < 1000000000) → (∀ i, i < fi2 → R2 i = 0) → fi2 ≤ fi → o < 2 ^ bt → (∀ j, j < fr → R2 j = R j) → ts 1000000000 R2 fr (160 - fr) + o * 1000000000 ^ (160 - fr) = ts 1000000000 R fr (160 - fr) * 2 ^ bt → ∀ e, e ≤ en → (∀ j, e ≤ j → j < 160 → R2 j = 0) → V K 8 [oc g 1 [.ref b, vi ((fi2 : Nat) : Int), vi ((e : Nat) : Int)], aj cJ b 160 R2] 0 0 83 [(0, .ref g), (1, vi ((fr : Nat) : Int)), (2, vi ((bt : Nat) : Int)), (3, vj ((o : Nat) : Int))] [] := by
    intro R2 fi2 o b1 b2 b3 b4 b5 b6 e
    induction e with
    | zero =>
      intro c1 c2
      refine qv_aload_n C rfl dq_Grp_multiply_83 ?_
      refine qv_get C fl_Grp_19 0 rfl rfl dq_Grp_multiply_84 ?_
      refine qv_iload_n C rfl dq_Grp_multiply_87 ?_
      refine qv_icle C (by omega) (by omega) (tgt := 120) (by decide) dq_Grp_multiply_88 (fun h88 => ?_) (fun h88 => ?_)
      · skip
        refine qv_lload_n C rfl dq_Grp_multiply_120 ?_
        refine qv_lret C hR ?_ dq_Grp_multiply_121 (by decide) (by decide)
        exact ⟨R2, fi2, 0, o, rfl, rfl, ⟨b1, b2, c2, by omega, by omega⟩, by omega, b3, Or.inl (by omega), b5, b6, b4⟩
      · exfalso; omega
    | succ e ih =>
      intro c1 c2
      have b9 := b1 e
      refine qv_aload_n C rfl dq_Grp_multiply_83 ?_
      refine qv_get C fl_Grp_19 0 rfl rfl dq_Grp_multiply_84 ?_
      refine qv_iload_n C rfl dq_Grp_multiply_87 ?_
      refine qv_icle C (by omega) (by omega) (tgt := 120) (by decide) dq_Grp_multiply_88 (fun h88 => ?_) (fun h88 => ?_)
      · skip
        refine qv_lload_n C rfl dq_Grp_multiply_120 ?_
        refine qv_lret C hR ?_ dq_Grp_multiply_121 (by decide) (by decide)
        exact ⟨R2, fi2, (e + 1), o, rfl, rfl, ⟨b1, b2, c2, by omega, by omega⟩, by omega, b3, Or.inl (by omega), b5, b6, b4⟩
      · skip
        refine qv_aload_n C rfl dq_Grp_multiply_91 ?_
        refine qv_get C fl_Grp_11 0 rfl rfl dq_Grp_multiply_92 ?_
        refine qv_aload_n C rfl dq_Grp_multiply_95 ?_
        refine qv_get C fl_Grp_19 0 rfl rfl dq_Grp_multiply_96 ?_
        refine qv_iconst C dq_Grp_multiply_99 ?_
        refine qv_isub C (r := ((e : Nat) : Int)) (by omega) dq_Grp_multiply_100 ?_
        refine qv_lald C 1 e rfl (by omega) (by omega) (by omega) dq_Grp_multiply_101 ?_
        refine qv_lconst C (z := 0) (by decide) dq_Grp_multiply_102 ?_
        refine qv_lcne C (by omega) (by omega) dq_Grp_multiply_103 (tgt := 120) (by decide) dq_Grp_multiply_104 (fun h103 => ?_) (fun h103 => ?_)
        · skip
          refine qv_lload_n C rfl dq_Grp_multiply_120 ?_
          refine qv_lret C hR ?_ dq_Grp_multiply_121 (by decide) (by decide)
          exact ⟨R2, fi2, (e + 1), o, rfl, rfl, ⟨b1, b2, c2, by omega, by omega⟩, by omega, b3, Or.inr (by show R2 e ≠ 0; omega), b5, b6, b4⟩
        · skip
          refine qv_aload_n C rfl dq_Grp_multiply_107 ?_
          refine qv_dup C rfl dq_Grp_multiply_108 ?_
          refine qv_get C fl_Grp_19 0 rfl rfl dq_Grp_multiply_109 ?_
          refine qv_iconst C dq_Grp_multiply_112 ?_
          refine qv_isub C (r := ((e : Nat) : Int)) (by omega) dq_Grp_multiply_113 ?_
          refine qv_put C (ws' := [oc g 1 [.ref b, vi ((fi2 : Nat) : Int), vi ((e : Nat) : Int)], aj cJ b 160 R2]) fl_Grp_19 fs_1_2 0 rfl rfl rfl (Nat.le_of_ble_eq_true rfl) rfl dq_Grp_multiply_114 ?_
          refine qv_goto C (tgt := 83) (by decide) dq_Grp_multiply_117 ?_
          exact ih (by omega) (fun j hj hj2 => by
            by_cases q : j = e
            · rw [q]; omega
            · exact c2 j (by omega) hj2)
  have loop : ∀ t (R2 : Nat → Nat) (fi2 o : Nat), MI fr R R2 fi fi2 en t o (2 ^ bt) → V K 8 [oc g 1 [.ref b, vi ((fi2 : Nat) : Int), vi ((en : Nat) : Int)], aj cJ b 160 R2] 0 0 10 [(0, .ref g), (1, vi ((fr : Nat) : Int)), (2, vi ((bt : Nat) : Int)), (3, vj ((o : Nat) : Int)), (5, vi (((t : Nat) : Int) - 1))] [] := by
    intro t
    induction t with
    | zero =>
      intro R2 fi2 o hM
      obtain ⟨m1, m2, m3, m4, m5, m6, m7, m8, m9⟩ := id hM
      obtain ⟨e1, e2, e3⟩ := MI_e hM hG hfr (Or.inl (by omega))
      refine qv_iload C rfl dq_Grp_multiply_10 ?_
      refine qv_iload_n C rfl dq_Grp_multiply_12 ?_
      refine qv_iclt C (by omega) (by omega) (tgt := 83) (by decide) dq_Grp_multiply_13 (fun h13 => ?_) (fun h13 => ?_)
      · skip
        refine qv_lv [0, 1, 2, 3] (lv' := [(0, .ref g), (1, vi ((fr : Nat) : Int)), (2, vi ((bt : Nat) : Int)), (3, vj ((o : Nat) : Int))]) rfl ?_
        exact trim R2 fi2 o m1 m4 m5 m7 e2 e1 en (Nat.le_refl _) e3
      · exfalso; omega
    | succ t ih =>
      intro R2 fi2 o hM
      obtain ⟨m1, m2, m3, m4, m5, m6, m7, m8, m9⟩ := id hM
      have hRt := m1 t
      have hpr : R2 t * 2 ^ bt + o < 4294967296000000000 := by
        have q1 : R2 t * 2 ^ bt ≤ 999999999 * 2 ^ bt := Nat.mul_le_mul_right _ (by omega)
        omega
      have et : (((t + 1 : Nat) : Int) - 1) = ((t : Nat) : Int) := by omega
      rw [et]
      refine qv_iload C rfl dq_Grp_multiply_10 ?_
      refine qv_iload_n C rfl dq_Grp_multiply_12 ?_
      refine qv_iclt C (by omega) (by omega) (tgt := 83) (by decide) dq_Grp_multiply_13 (fun h13 => ?_) (fun h13 => ?_)
      · skip
        refine qv_lv [0, 1, 2, 3] (lv' := [(0, .ref g), (1, vi ((fr : Nat) : Int)), (2, vi ((bt : Nat) : Int)), (3, vj ((o : Nat) : Int))]) rfl ?_
        obtain ⟨e1, e2, e3⟩ := MI_e hM hG hfr (Or.inl (by omega))
        exact trim R2 fi2 o m1 m4 m5 m7 e2 e1 en (Nat.le_refl _) e3
      · skip
        refine qv_iload C rfl dq_Grp_multiply_16 ?_
        refine qv_aload_n C rfl dq_Grp_multiply_18 ?_
        refine qv_get C fl_Grp_15 0 rfl rfl dq_Grp_multiply_19 ?_
        refine qv_icge C (by omega) (by omega) (tgt := 31) (by decide) dq_Grp_multiply_22 (fun h22 => ?_) (fun h22 => ?_)
        · skip
          refine qv_aload_n C rfl dq_Grp_multiply_31 ?_
          refine qv_get C fl_Grp_11 0 rfl rfl dq_Grp_multiply_32 ?_
          refine qv_iload C rfl dq_Grp_multiply_35 ?_
          refine qv_lald C 1 t rfl (by omega) (by omega) (by omega) dq_Grp_multiply_37 ?_
          refine qv_iload_n C rfl dq_Grp_multiply_38 ?_
          refine qv_lshl C (R2 t) bt (by omega) (by omega) (by omega) dq_Grp_multiply_39 ?_
          refine qv_lload_n C rfl dq_Grp_multiply_40 ?_
          refine qv_ladd C (r := ((((R2 t) * 2 ^ bt + o) : Nat) : Int)) (by omega) dq_Grp_multiply_41 ?_
          refine qv_lstore C (lv' := [(6, vj ((((R2 t) * 2 ^ bt + o) : Nat) : Int)), (0, .ref g), (1, vi ((fr : Nat) : Int)), (2, vi ((bt : Nat) : Int)), (3, vj ((o : Nat) : Int)), (5, vi ((t : Nat) : Int))]) (by decide) rfl dq_Grp_multiply_42 ?_
          refine qv_aload_n C rfl dq_Grp_multiply_44 ?_
          refine qv_get C fl_Grp_11 0 rfl rfl dq_Grp_multiply_45 ?_
          refine qv_iload C rfl dq_Grp_multiply_48 ?_
          refine qv_lload C rfl dq_Grp_multiply_50 ?_
          refine qv_ldc2 C (z := 1000000000) wk_Grp_28 dq_Grp_multiply_52 ?_
          refine qv_lrem C (r := (((((R2 t) * 2 ^ bt + o) % 1000000000) : Nat) : Int)) (by omega) (by omega) (by omega) (by omega) (by omega) dq_Grp_multiply_55 ?_
          refine qv_last C (ws' := [oc g 1 [.ref b, vi ((fi2 : Nat) : Int), vi ((en : Nat) : Int)], aj cJ b 160 (un R2 t (((R2 t) * 2 ^ bt + o) % 1000000000))]) 1 t (((R2 t) * 2 ^ bt + o) % 1000000000) rfl (by omega) (by omega) (by omega) (by omega) rfl dq_Grp_multiply_56 ?_
          refine qv_lload C rfl dq_Grp_multiply_57 ?_
          refine qv_ldc2 C (z := 1000000000) wk_Grp_28 dq_Grp_multiply_59 ?_
          refine qv_ldiv C (r := (((((R2 t) * 2 ^ bt + o) / 1000000000) : Nat) : Int)) (by omega) (by omega) (by omega) (by omega) (by omega) dq_Grp_multiply_62 ?_
          refine qv_lstore_n C (lv' := [(3, vj (((((R2 t) * 2 ^ bt + o) / 1000000000) : Nat) : Int)), (6, vj ((((R2 t) * 2 ^ bt + o) : Nat) : Int)), (0, .ref g), (1, vi ((fr : Nat) : Int)), (2, vi ((bt : Nat) : Int)), (5, vi ((t : Nat) : Int))]) (by decide) rfl dq_Grp_multiply_63 ?_
          refine qv_aload_n C rfl dq_Grp_multiply_64 ?_
          refine qv_aload_n C rfl dq_Grp_multiply_65 ?_
          refine qv_get C fl_Grp_15 0 rfl rfl dq_Grp_multiply_66 ?_
          refine qv_iload C rfl dq_Grp_multiply_69 ?_
          refine qv_mmin (r := ((min fi2 t : Nat) : Int)) C cl_Grp_30 wm_min_s wm_init wm_min_c (by omega) (by omega) (by decide) (Nat.le_of_ble_eq_true rfl) (by decide) (by decide) (by omega) dq_Grp_multiply_71 ?_
          refine qv_put C (ws' := [oc g 1 [.ref b, vi ((min fi2 t : Nat) : Int), vi ((en : Nat) : Int)], aj cJ b 160 (un R2 t (((R2 t) * 2 ^ bt + o) % 1000000000))]) fl_Grp_15 fs_1_1 0 rfl rfl rfl (Nat.le_of_ble_eq_true rfl) rfl dq_Grp_multiply_74 ?_
          refine qv_iinc C (j := 5) (lv' := [(5, vi (((t : Nat) : Int) - 1)), (3, vj (((((R2 t) * 2 ^ bt + o) / 1000000000) : Nat) : Int)), (6, vj ((((R2 t) * 2 ^ bt + o) : Nat) : Int)), (0, .ref g), (1, vi ((fr : Nat) : Int)), (2, vi ((bt : Nat) : Int))]) (by omega) rfl (by decide) rfl dq_Grp_multiply_77 ?_
          refine qv_goto C (tgt := 10) (by decide) dq_Grp_multiply_80 ?_
          refine qv_lv [3, 4, 5, 1, 0] (lv' := [(0, .ref g), (1, vi ((fr : Nat) : Int)), (2, vi ((bt : Nat) : Int)), (3, vj (((((R2 t) * 2 ^ bt + o) / 1000000000) : Nat) : Int)), (5, vi (((t : Nat) : Int) - 1))]) rfl ?_
          exact ih _ _ _ (MI_s hM (by omega) (by omega))
        · skip
          refine qv_lload_n C rfl dq_Grp_multiply_25 ?_
          refine qv_lconst C (z := 0) (by decide) dq_Grp_multiply_26 ?_
          refine qv_lceq C (by omega) (by omega) dq_Grp_multiply_27 (tgt := 83) (by decide) dq_Grp_multiply_28 (fun h27 => ?_) (fun h27 => ?_)
          · skip
            refine qv_lv [0, 1, 2, 3] (lv' := [(0, .ref g), (1, vi ((fr : Nat) : Int)), (2, vi ((bt : Nat) : Int)), (3, vj ((o : Nat) : Int))]) rfl ?_
            obtain ⟨e1, e2, e3⟩ := MI_e hM hG hfr (Or.inr ⟨by omega, by omega⟩)
            exact trim R2 fi2 o m1 m4 m5 m7 e2 e1 en (Nat.le_refl _) e3
          · skip
            refine qv_aload_n C rfl dq_Grp_multiply_31 ?_
            refine qv_get C fl_Grp_11 0 rfl rfl dq_Grp_multiply_32 ?_
            refine qv_iload C rfl dq_Grp_multiply_35 ?_
            refine qv_lald C 1 t rfl (by omega) (by omega) (by omega) dq_Grp_multiply_37 ?_
            refine qv_iload_n C rfl dq_Grp_multiply_38 ?_
            refine qv_lshl C (R2 t) bt (by omega) (by omega) (by omega) dq_Grp_multiply_39 ?_
            refine qv_lload_n C rfl dq_Grp_multiply_40 ?_
            refine qv_ladd C (r := ((((R2 t) * 2 ^ bt + o) : Nat) : Int)) (by omega) dq_Grp_multiply_41 ?_
            refine qv_lstore C (lv' := [(6, vj ((((R2 t) * 2 ^ bt + o) : Nat) : Int)), (0, .ref g), (1, vi ((fr : Nat) : Int)), (2, vi ((bt : Nat) : Int)), (3, vj ((o : Nat) : Int)), (5, vi ((t : Nat) : Int))]) (by decide) rfl dq_Grp_multiply_42 ?_
            refine qv_aload_n C rfl dq_Grp_multiply_44 ?_
            refine qv_get C fl_Grp_11 0 rfl rfl dq_Grp_multiply_45 ?_
            refine qv_iload C rfl dq_Grp_multiply_48 ?_
            refine qv_lload C rfl dq_Grp_multiply_50 ?_
            refine qv_ldc2 C (z := 1000000000) wk_Grp_28 dq_Grp_multiply_52 ?_
            refine qv_lrem C (r := (((((R2 t) * 2 ^ bt + o) % 1000000000) : Nat) : Int)) (by omega) (by omega) (by omega) (by omega) (by omega) dq_Grp_multiply_55 ?_
            refine qv_last C (ws' := [oc g 1 [.ref b, vi ((fi2 : Nat) : Int), vi ((en : Nat) : Int)], aj cJ b 160 (un R2 t (((R2 t) * 2 ^ bt + o) % 1000000000))]) 1 t (((R2 t) * 2 ^ bt + o) % 1000000000) rfl (by omega) (by omega) (by omega) (by omega) rfl dq_Grp_multiply_56 ?_
            refine qv_lload C rfl dq_Grp_multiply_57 ?_
            refine qv_ldc2 C (z := 1000000000) wk_Grp_28 dq_Grp_multiply_59 ?_
            refine qv_ldiv C (r := (((((R2 t) * 2 ^ bt + o) / 1000000000) : Nat) : Int)) (by omega) (by omega) (by omega) (by omega) (by omega) dq_Grp_multiply_62 ?_
            refine qv_lstore_n C (lv' := [(3, vj (((((R2 t) * 2 ^ bt + o) / 1000000000) : Nat) : Int)), (6, vj ((((R2 t) * 2 ^ bt + o) : Nat) : Int)), (0, .ref g), (1, vi ((fr : Nat) : Int)), (2, vi ((bt : Nat) : Int)), (5, vi ((t : Nat) : Int))]) (by decide) rfl dq_Grp_multiply_63 ?_
            refine qv_aload_n C rfl dq_Grp_multiply_64 ?_
            refine qv_aload_n C rfl dq_Grp_multiply_65 ?_
            refine qv_get C fl_Grp_15 0 rfl rfl dq_Grp_multiply_66 ?_
            refine qv_iload C rfl dq_Grp_multiply_69 ?_
            refine qv_mmin (r := ((min fi2 t : Nat) : Int)) C cl_Grp_30 wm_min_s wm_init wm_min_c (by omega) (by omega) (by decide) (Nat.le_of_ble_eq_true rfl) (by decide) (by decide) (by omega) dq_Grp_multiply_71 ?_
            refine qv_put C (ws' := [oc g 1 [.ref b, vi ((min fi2 t : Nat) : Int), vi ((en : Nat) : Int)], aj cJ b 160 (un R2 t (((R2 t) * 2 ^ bt + o) % 1000000000))]) fl_Grp_15 fs_1_1 0 rfl rfl rfl (Nat.le_of_ble_eq_true rfl) rfl dq_Grp_multiply_74 ?_
            refine qv_iinc C (j := 5) (lv' := [(5, vi (((t : Nat) : Int) - 1)), (3, vj (((((R2 t) * 2 ^ bt + o) / 1000000000) : Nat) : Int)), (6, vj ((((R2 t) * 2 ^ bt + o) : Nat) : Int)), (0, .ref g), (1, vi ((fr : Nat) : Int)), (2, vi ((bt : Nat) : Int))]) (by omega) rfl (by decide) rfl dq_Grp_multiply_77 ?_
            refine qv_goto C (tgt := 10) (by decide) dq_Grp_multiply_80 ?_
            refine qv_lv [3, 4, 5, 1, 0] (lv' := [(0, .ref g), (1, vi ((fr : Nat) : Int)), (2, vi ((bt : Nat) : Int)), (3, vj (((((R2 t) * 2 ^ bt + o) / 1000000000) : Nat) : Int)), (5, vi (((t : Nat) : Int) - 1))]) rfl ?_
            exact ih _ _ _ (MI_s hM (by omega) (by omega))
  refine qv_lconst C (z := 0) (by decide) dq_Grp_multiply_0 ?_
  refine qv_lstore_n C (lv' := [(3, vj 0), (0, .ref g), (1, vi ((fr : Nat) : Int)), (2, vi ((bt : Nat) : Int))]) (by decide) rfl dq_Grp_multiply_1 ?_
  refine qv_aload_n C rfl dq_Grp_multiply_2 ?_
  refine qv_get C fl_Grp_19 0 rfl rfl dq_Grp_multiply_3 ?_
  refine qv_iconst C dq_Grp_multiply_6 ?_
  refine qv_isub C (r := (((en : Nat) : Int) - 1)) rfl dq_Grp_multiply_7 ?_
  refine qv_istore C (lv' := [(5, vi (((en : Nat) : Int) - 1)), (3, vj 0), (0, .ref g), (1, vi ((fr : Nat) : Int)), (2, vi ((bt : Nat) : Int))]) (by decide) rfl dq_Grp_multiply_8 ?_
  refine qv_lv [2, 3, 4, 1, 0] (lv' := [(0, .ref g), (1, vi ((fr : Nat) : Int)), (2, vi ((bt : Nat) : Int)), (3, vj 0), (5, vi (((en : Nat) : Int) - 1))]) rfl ?_
  exact loop en R fi 0 (MI_0 hG hz0)

theorem c_Grp_divide (cI cJ : ClassId) (g b fi en : Nat) (R : Nat → Nat) (lim bt : Nat) (hG : Gd R fi en) (hlim : lim ≤ 160) (hbt : bt ≤ 32) : MtJ cI cJ ky_Grp_divide kb_Grp_divide 10 rm_Grp_divide Xt [.ref g, vi ((lim : Nat) : Int), vi ((bt : Nat) : Int)] [oc g 1 [.ref b, vi ((fi : Nat) : Int), vi ((en : Nat) : Int)], aj cJ b 160 R] (fun z u => ∃ (R2 : Nat → Nat) (fi2 en2 o : Nat), z = ((o : Nat) : Int) ∧ u = gw cJ g b fi2 en2 R2 ∧ Dvo lim R fi en (2 ^ bt) R2 fi2 en2 o) := by
  refine MtJ_in (by decide) (Nat.le_of_ble_eq_true rfl) (fun K C hR hX hN => ?_)
  show V K 10 [oc g 1 [.ref b, vi ((fi : Nat) : Int), vi ((en : Nat) : Int)], aj cJ b 160 R] 0 0 0 [(0, .ref g), (1, vi ((lim : Nat) : Int)), (2, vi ((bt : Nat) : Int))] []
  obtain ⟨g1, g2, g3, g4, g5⟩ := id hG
  have hz0 : 0 < 2 ^ bt := Nat.pow_pos (by omega)
  have hz32 : 2 ^ bt ≤ 4294967296 := Nat.le_trans (Nat.pow_le_pow_right (by omega) hbt) (by decide)
  have trim : ∀ (R2 : Nat → Nat) (en2 l : Nat), (∀ i, R2 i < 1000000000) → (∀ e, (∀ j, j < e → R2 j = 0) → fi ≤ e → e ≤ 160 → Dvo lim R fi en (2 ^ bt) R2 e en2 l) → ∀ k e, e + k = max fi lim → (∀ j, j < e → R2 j = 0) → fi ≤ e → V K 10 [oc g 1 [.ref b, vi ((e : Nat) : Int), vi ((en2 : Nat) : Int)], aj cJ b 160 R2] 0 0 91 [(0, .ref g), (1, vi ((lim : Nat) : Int)), (5, vj ((l : Nat) : Int))] [] := by
    intro R2 en2 l b1 b2 k
    induction k with
    | zero =>
      intro e c0 c1 c2
      refine qv_aload_n C rfl dq_Grp_divide_91 ?_
      refine qv_get C fl_Grp_15 0 rfl rfl dq_Grp_divide_92 ?_
      refine qv_iload_n C rfl dq_Grp_divide_95 ?_
      refine qv_icge C (by omega) (by omega) (tgt := 126) (by decide) dq_Grp_divide_96 (fun h96 => ?_) (fun h96 => ?_)
      · skip
        refine qv_lload C rfl dq_Grp_divide_126 ?_
        refine qv_lret C hR ?_ dq_Grp_divide_128 (by decide) (by decide)
        exact ⟨R2, e, en2, l, rfl, rfl, b2 e c1 c2 (by omega)⟩
      · exfalso; omega
    | succ k ih =>
      intro e c0 c1 c2
      have b9 := b1 e
      refine qv_aload_n C rfl dq_Grp_divide_91 ?_
      refine qv_get C fl_Grp_15 0 rfl rfl dq_Grp_divide_92 ?_
      refine qv_iload_n C rfl dq_Grp_divide_95 ?_
      refine qv_icge C (by omega) (by omega) (tgt := 126) (by decide) dq_Grp_divide_96 (fun h96 => ?_) (fun h96 => ?_)
      · exfalso; omega
      · skip
        refine qv_aload_n C rfl dq_Grp_divide_99 ?_
        refine qv_get C fl_Grp_11 0 rfl rfl dq_Grp_divide_100 ?_
        refine qv_aload_n C rfl dq_Grp_divide_103 ?_
        refine qv_get C fl_Grp_15 0 rfl rfl dq_Grp_divide_104 ?_
        refine qv_lald C 1 e rfl (by omega) (by omega) (by omega) dq_Grp_divide_107 ?_
        refine qv_lconst C (z := 0) (by decide) dq_Grp_divide_108 ?_
        refine qv_lcne C (by omega) (by omega) dq_Grp_divide_109 (tgt := 126) (by decide) dq_Grp_divide_110 (fun h109 => ?_) (fun h109 => ?_)
        · skip
          refine qv_lload C rfl dq_Grp_divide_126 ?_
          refine qv_lret C hR ?_ dq_Grp_divide_128 (by decide) (by decide)
          exact ⟨R2, e, en2, l, rfl, rfl, b2 e c1 c2 (by omega)⟩
        · skip
          refine qv_aload_n C rfl dq_Grp_divide_113 ?_
          refine qv_dup C rfl dq_Grp_divide_114 ?_
          refine qv_get C fl_Grp_15 0 rfl rfl dq_Grp_divide_115 ?_
          refine qv_iconst C dq_Grp_divide_118 ?_
          refine qv_iadd C (r := (((e + 1) : Nat) : Int)) (by omega) dq_Grp_divide_119 ?_
          refine qv_put C (ws' := [oc g 1 [.ref b, vi (((e + 1) : Nat) : Int), vi ((en2 : Nat) : Int)], aj cJ b 160 R2]) fl_Grp_15 fs_1_1 0 rfl rfl rfl (Nat.le_of_ble_eq_true rfl) rfl dq_Grp_divide_120 ?_
          refine qv_goto C (tgt := 91) (by decide) dq_Grp_divide_123 ?_
          exact ih (e + 1) (by omega) (fun j hj => by
            by_cases q : j = e
            · rw [q]; omega
            · exact c1 j (by omega)) (by omega)
  have loop : ∀ k i (R2 : Nat → Nat) (en2 l : Nat), i + k = max fi lim → DI R R2 fi en en2 i l (2 ^ bt) → (en2 = en ∨ en2 ≤ i) → (i ≤ lim ∨ (i = fi ∧ l = 0)) → V K 10 [oc g 1 [.ref b, vi ((fi : Nat) : Int), vi ((en2 : Nat) : Int)], aj cJ b 160 R2] 0 0 15 [(0, .ref g), (1, vi ((lim : Nat) : Int)), (2, vi ((bt : Nat) : Int)), (3, vj (((1 * 2 ^ bt - 1) : Nat) : Int)), (5, vj ((l : Nat) : Int)), (7, vi ((i : Nat) : Int))] [] := by
    intro k
    induction k with
    | zero =>
      intro i R2 en2 l hi hD hE2 hil
      obtain ⟨m1, m2, m3, m4, m5, m6, m7, m8, m9, m10⟩ := id hD
      refine qv_iload C rfl dq_Grp_divide_15 ?_
      refine qv_iload_n C rfl dq_Grp_divide_17 ?_
      refine qv_icge C (by omega) (by omega) (tgt := 91) (by decide) dq_Grp_divide_18 (fun h18 => ?_) (fun h18 => ?_)
      · skip
        refine qv_lv [0, 1, 4] (lv' := [(0, .ref g), (1, vi ((lim : Nat) : Int)), (5, vj ((l : Nat) : Int))]) rfl ?_
        exact trim R2 en2 l m1 (fun e q1 q2 q3 => Dvo_of hG hD hE2 hlim hil (Or.inl (by omega)) q1 q2 q3) (max fi lim - fi) fi (by omega) m3 (Nat.le_refl _)
      · exfalso; omega
    | succ k ih =>
      intro i R2 en2 l hi hD hE2 hil
      obtain ⟨m1, m2, m3, m4, m5, m6, m7, m8, m9, m10⟩ := id hD
      have hRi := m1 i
      have hpr : l * 1000000000 + R2 i < 4294967296000000000 := by omega
      refine qv_iload C rfl dq_Grp_divide_15 ?_
      refine qv_iload_n C rfl dq_Grp_divide_17 ?_
      refine qv_icge C (by omega) (by omega) (tgt := 91) (by decide) dq_Grp_divide_18 (fun h18 => ?_) (fun h18 => ?_)
      · exfalso; omega
      · skip
        refine qv_iload C rfl dq_Grp_divide_21 ?_
        refine qv_aload_n C rfl dq_Grp_divide_23 ?_
        refine qv_get C fl_Grp_19 0 rfl rfl dq_Grp_divide_24 ?_
        refine qv_iclt C (by omega) (by omega) (tgt := 37) (by decide) dq_Grp_divide_27 (fun h27 => ?_) (fun h27 => ?_)
        · skip
          refine qv_lload C rfl dq_Grp_divide_37 ?_
          refine qv_ldc2 C (z := 1000000000) wk_Grp_28 dq_Grp_divide_39 ?_
          refine qv_lmul C (r := (((l * 1000000000) : Nat) : Int)) (by omega) dq_Grp_divide_42 ?_
          refine qv_aload_n C rfl dq_Grp_divide_43 ?_
          refine qv_get C fl_Grp_11 0 rfl rfl dq_Grp_divide_44 ?_
          refine qv_iload C rfl dq_Grp_divide_47 ?_
          refine qv_lald C 1 i rfl (by omega) (by omega) (by omega) dq_Grp_divide_49 ?_
          refine qv_ladd C (r := ((((l * 1000000000) + R2 i) : Nat) : Int)) (by omega) dq_Grp_divide_50 ?_
          refine qv_lstore C (lv' := [(8, vj ((((l * 1000000000) + R2 i) : Nat) : Int)), (0, .ref g), (1, vi ((lim : Nat) : Int)), (2, vi ((bt : Nat) : Int)), (3, vj (((1 * 2 ^ bt - 1) : Nat) : Int)), (5, vj ((l : Nat) : Int)), (7, vi ((i : Nat) : Int))]) (by decide) rfl dq_Grp_divide_51 ?_
          refine qv_aload_n C rfl dq_Grp_divide_53 ?_
          refine qv_get C fl_Grp_11 0 rfl rfl dq_Grp_divide_54 ?_
          refine qv_iload C rfl dq_Grp_divide_57 ?_
          refine qv_lload C rfl dq_Grp_divide_59 ?_
          refine qv_iload_n C rfl dq_Grp_divide_61 ?_
          refine qv_lushr C ((l * 1000000000) + R2 i) bt (by omega) (by omega) (by omega) (by omega) dq_Grp_divide_62 ?_
          refine qv_last C (ws' := [oc g 1 [.ref b, vi ((fi : Nat) : Int), vi ((en2 : Nat) : Int)], aj cJ b 160 (un R2 i (((l * 1000000000) + R2 i) / 2 ^ bt))]) 1 i (((l * 1000000000) + R2 i) / 2 ^ bt) rfl (by omega) (by omega) (by omega) (by omega) rfl dq_Grp_divide_63 ?_
          refine qv_lload C rfl dq_Grp_divide_64 ?_
          refine qv_lload_n C rfl dq_Grp_divide_66 ?_
          refine qv_land C (r := (((((l * 1000000000) + R2 i) % 2 ^ bt) : Nat) : Int)) (by rw [Nat.one_mul]; exact zj_and (by omega)) dq_Grp_divide_67 ?_
          refine qv_lstore C (lv' := [(5, vj (((((l * 1000000000) + R2 i) % 2 ^ bt) : Nat) : Int)), (8, vj ((((l * 1000000000) + R2 i) : Nat) : Int)), (0, .ref g), (1, vi ((lim : Nat) : Int)), (2, vi ((bt : Nat) : Int)), (3, vj (((1 * 2 ^ bt - 1) : Nat) : Int)), (7, vi ((i : Nat) : Int))]) (by decide) rfl dq_Grp_divide_68 ?_
          refine qv_aload_n C rfl dq_Grp_divide_70 ?_
          refine qv_aload_n C rfl dq_Grp_divide_71 ?_
          refine qv_get C fl_Grp_19 0 rfl rfl dq_Grp_divide_72 ?_
          refine qv_iload C rfl dq_Grp_divide_75 ?_
          refine qv_iconst C dq_Grp_divide_77 ?_
          refine qv_iadd C (r := (((i + 1) : Nat) : Int)) (by omega) dq_Grp_divide_78 ?_
          refine qv_mmax (r := ((max en2 (i + 1) : Nat) : Int)) C cl_Grp_58 wm_max_s wm_init wm_max_c (by omega) (by omega) (by decide) (Nat.le_of_ble_eq_true rfl) (by decide) (by decide) (by omega) dq_Grp_divide_79 ?_
          refine qv_put C (ws' := [oc g 1 [.ref b, vi ((fi : Nat) : Int), vi ((max en2 (i + 1) : Nat) : Int)], aj cJ b 160 (un R2 i (((l * 1000000000) + R2 i) / 2 ^ bt))]) fl_Grp_19 fs_1_2 0 rfl rfl rfl (Nat.le_of_ble_eq_true rfl) rfl dq_Grp_divide_82 ?_
          refine qv_iinc C (j := 6) (lv' := [(7, vi (((i + 1) : Nat) : Int)), (5, vj (((((l * 1000000000) + R2 i) % 2 ^ bt) : Nat) : Int)), (8, vj ((((l * 1000000000) + R2 i) : Nat) : Int)), (0, .ref g), (1, vi ((lim : Nat) : Int)), (2, vi ((bt : Nat) : Int)), (3, vj (((1 * 2 ^ bt - 1) : Nat) : Int))]) (by omega) rfl (by decide) rfl dq_Grp_divide_85 ?_
          refine qv_goto C (tgt := 15) (by decide) dq_Grp_divide_88 ?_
          refine qv_lv [3, 4, 5, 6, 1, 0] (lv' := [(0, .ref g), (1, vi ((lim : Nat) : Int)), (2, vi ((bt : Nat) : Int)), (3, vj (((1 * 2 ^ bt - 1) : Nat) : Int)), (5, vj (((((l * 1000000000) + R2 i) % 2 ^ bt) : Nat) : Int)), (7, vi (((i + 1) : Nat) : Int))]) rfl ?_
          exact ih (i + 1) _ _ _ (by omega) (DI_s hD (by omega) (Or.inl (by omega))) (by omega) (by omega)
        · skip
          refine qv_lload C rfl dq_Grp_divide_30 ?_
          refine qv_lconst C (z := 0) (by decide) dq_Grp_divide_32 ?_
          refine qv_lceq C (by omega) (by omega) dq_Grp_divide_33 (tgt := 91) (by decide) dq_Grp_divide_34 (fun h33 => ?_) (fun h33 => ?_)
          · skip
            refine qv_lv [0, 1, 4] (lv' := [(0, .ref g), (1, vi ((lim : Nat) : Int)), (5, vj ((l : Nat) : Int))]) rfl ?_
            exact trim R2 en2 l m1 (fun e q1 q2 q3 => Dvo_of hG hD hE2 hlim hil (Or.inr ⟨by omega, by omega⟩) q1 q2 q3) (max fi lim - fi) fi (by omega) m3 (Nat.le_refl _)
          · skip
            refine qv_lload C rfl dq_Grp_divide_37 ?_
            refine qv_ldc2 C (z := 1000000000) wk_Grp_28 dq_Grp_divide_39 ?_
            refine qv_lmul C (r := (((l * 1000000000) : Nat) : Int)) (by omega) dq_Grp_divide_42 ?_
            refine qv_aload_n C rfl dq_Grp_divide_43 ?_
            refine qv_get C fl_Grp_11 0 rfl rfl dq_Grp_divide_44 ?_
            refine qv_iload C rfl dq_Grp_divide_47 ?_
            refine qv_lald C 1 i rfl (by omega) (by omega) (by omega) dq_Grp_divide_49 ?_
            refine qv_ladd C (r := ((((l * 1000000000) + R2 i) : Nat) : Int)) (by omega) dq_Grp_divide_50 ?_
            refine qv_lstore C (lv' := [(8, vj ((((l * 1000000000) + R2 i) : Nat) : Int)), (0, .ref g), (1, vi ((lim : Nat) : Int)), (2, vi ((bt : Nat) : Int)), (3, vj (((1 * 2 ^ bt - 1) : Nat) : Int)), (5, vj ((l : Nat) : Int)), (7, vi ((i : Nat) : Int))]) (by decide) rfl dq_Grp_divide_51 ?_
            refine qv_aload_n C rfl dq_Grp_divide_53 ?_
            refine qv_get C fl_Grp_11 0 rfl rfl dq_Grp_divide_54 ?_
            refine qv_iload C rfl dq_Grp_divide_57 ?_
            refine qv_lload C rfl dq_Grp_divide_59 ?_
            refine qv_iload_n C rfl dq_Grp_divide_61 ?_
            refine qv_lushr C ((l * 1000000000) + R2 i) bt (by omega) (by omega) (by omega) (by omega) dq_Grp_divide_62 ?_
            refine qv_last C (ws' := [oc g 1 [.ref b, vi ((fi : Nat) : Int), vi ((en2 : Nat) : Int)], aj cJ b 160 (un R2 i (((l * 1000000000) + R2 i) / 2 ^ bt))]) 1 i (((l * 1000000000) + R2 i) / 2 ^ bt) rfl (by omega) (by omega) (by omega) (by omega) rfl dq_Grp_divide_63 ?_
            refine qv_lload C rfl dq_Grp_divide_64 ?_
            refine qv_lload_n C rfl dq_Grp_divide_66 ?_
            refine qv_land C (r := (((((l * 1000000000) + R2 i) % 2 ^ bt) : Nat) : Int)) (by rw [Nat.one_mul]; exact zj_and (by omega)) dq_Grp_divide_67 ?_
            refine qv_lstore C (lv' := [(5, vj (((((l * 1000000000) + R2 i) % 2 ^ bt) : Nat) : Int)), (8, vj ((((l * 1000000000) + R2 i) : Nat) : Int)), (0, .ref g), (1, vi ((lim : Nat) : Int)), (2, vi ((bt : Nat) : Int)), (3, vj (((1 * 2 ^ bt - 1) : Nat) : Int)), (7, vi ((i : Nat) : Int))]) (by decide) rfl dq_Grp_divide_68 ?_
            refine qv_aload_n C rfl dq_Grp_divide_70 ?_
            refine qv_aload_n C rfl dq_Grp_divide_71 ?_
            refine qv_get C fl_Grp_19 0 rfl rfl dq_Grp_divide_72 ?_
            refine qv_iload C rfl dq_Grp_divide_75 ?_
            refine qv_iconst C dq_Grp_divide_77 ?_
            refine qv_iadd C (r := (((i + 1) : Nat) : Int)) (by omega) dq_Grp_divide_78 ?_
            refine qv_mmax (r := ((max en2 (i + 1) : Nat) : Int)) C cl_Grp_58 wm_max_s wm_init wm_max_c (by omega) (by omega) (by decide) (Nat.le_of_ble_eq_true rfl) (by decide) (by decide) (by omega) dq_Grp_divide_79 ?_
            refine qv_put C (ws' := [oc g 1 [.ref b, vi ((fi : Nat) : Int), vi ((max en2 (i + 1) : Nat) : Int)], aj cJ b 160 (un R2 i (((l * 1000000000) + R2 i) / 2 ^ bt))]) fl_Grp_19 fs_1_2 0 rfl rfl rfl (Nat.le_of_ble_eq_true rfl) rfl dq_Grp_divide_82 ?_
            refine qv_iinc C (j := 6) (lv' := [(7, vi (((i + 1) : Nat) : Int)), (5, vj (((((l * 1000000000) + R2 i) % 2 ^ bt) : Nat) : Int)), (8, vj ((((l * 1000000000) + R2 i) : Nat) : Int)), (0, .ref g), (1, vi ((lim : Nat) : Int)), (2, vi ((bt : Nat) : Int)), (3, vj (((1 * 2 ^ bt - 1) : Nat) : Int))]) (by omega) rfl (by decide) rfl dq_Grp_divide_85 ?_
            refine qv_goto C (tgt := 15) (by decide) dq_Grp_divide_88 ?_
            refine qv_lv [3, 4, 5, 6, 1, 0] (lv' := [(0, .ref g), (1, vi ((lim : Nat) : Int)), (2, vi ((bt : Nat) : Int)), (3, vj (((1 * 2 ^ bt - 1) : Nat) : Int)), (5, vj (((((l * 1000000000) + R2 i) % 2 ^ bt) : Nat) : Int)), (7, vi (((i + 1) : Nat) : Int))]) rfl ?_
            exact ih (i + 1) _ _ _ (by omega) (DI_s hD (by omega) (Or.inr (by omega))) (by omega) (by omega)
  refine qv_lconst C (z := 1) (by decide) dq_Grp_divide_0 ?_
  refine qv_iload_n C rfl dq_Grp_divide_1 ?_
  refine qv_lshl C 1 bt (by omega) (by omega) (by omega) dq_Grp_divide_2 ?_
  refine qv_lconst C (z := 1) (by decide) dq_Grp_divide_3 ?_
  refine qv_lsub C (r := (((1 * 2 ^ bt - 1) : Nat) : Int)) (by omega) dq_Grp_divide_4 ?_
  refine qv_lstore_n C (lv' := [(3, vj (((1 * 2 ^ bt - 1) : Nat) : Int)), (0, .ref g), (1, vi ((lim : Nat) : Int)), (2, vi ((bt : Nat) : Int))]) (by decide) rfl dq_Grp_divide_5 ?_
  refine qv_lconst C (z := 0) (by decide) dq_Grp_divide_6 ?_
  refine qv_lstore C (lv' := [(5, vj 0), (3, vj (((1 * 2 ^ bt - 1) : Nat) : Int)), (0, .ref g), (1, vi ((lim : Nat) : Int)), (2, vi ((bt : Nat) : Int))]) (by decide) rfl dq_Grp_divide_7 ?_
  refine qv_aload_n C rfl dq_Grp_divide_9 ?_
  refine qv_get C fl_Grp_15 0 rfl rfl dq_Grp_divide_10 ?_
  refine qv_istore C (lv' := [(7, vi ((fi : Nat) : Int)), (5, vj 0), (3, vj (((1 * 2 ^ bt - 1) : Nat) : Int)), (0, .ref g), (1, vi ((lim : Nat) : Int)), (2, vi ((bt : Nat) : Int))]) (by decide) rfl dq_Grp_divide_13 ?_
  refine qv_lv [3, 4, 5, 2, 1, 0] (lv' := [(0, .ref g), (1, vi ((lim : Nat) : Int)), (2, vi ((bt : Nat) : Int)), (3, vj (((1 * 2 ^ bt - 1) : Nat) : Int)), (5, vj 0), (7, vi ((fi : Nat) : Int))]) rfl ?_
  exact loop (max fi lim - fi) fi R en 0 (by omega) (DI_0 hG hz0) (Or.inl rfl) (by omega)

theorem c_Grp_hasSomethingBehindPoint (cI cJ : ClassId) (g b fi en : Nat) (R : Nat → Nat) (hen : en ≤ 160) : MtI cI cJ ky_Grp_hasSomethingBehindPoint kb_Grp_hasSomethingBehindPoint 1 .boolean rm_Grp_hasSomethingBehindPoint Xt [.ref g] [oc g 1 [.ref b, vi ((fi : Nat) : Int), vi ((en : Nat) : Int)], aj cJ b 160 R] (fun z u => z = b2 (decide (35 < en)) ∧ u = gw cJ g b fi en R) := by
  refine MtI_in (by decide) (Nat.le_of_ble_eq_true rfl) (fun K C hR hX hN => ?_)
  show V K 1 [oc g 1 [.ref b, vi ((fi : Nat) : Int), vi ((en : Nat) : Int)], aj cJ b 160 R] 0 0 0 [(0, .ref g)] []
  refine qv_aload_n C rfl dq_Grp_hasSomethingBehindPoint_0 ?_
  refine qv_get C fl_Grp_19 0 rfl rfl dq_Grp_hasSomethingBehindPoint_1 ?_
  refine qv_bipush C (by decide) dq_Grp_hasSomethingBehindPoint_4 ?_
  refine qv_icle C (by omega) (by omega) (tgt := 13) (by decide) dq_Grp_hasSomethingBehindPoint_6 (fun h6 => ?_) (fun h6 => ?_)
  · skip
    refine qv_iconst C dq_Grp_hasSomethingBehindPoint_13 ?_
    refine qv_zret (b := false) C hR ?_ dq_Grp_hasSomethingBehindPoint_14 (by decide) (by decide)
    refine ⟨congrArg b2 ?_, rfl⟩
    symm
    first | exact decide_eq_true (by omega) | exact decide_eq_false (by omega)
  · skip
    refine qv_iconst C dq_Grp_hasSomethingBehindPoint_9 ?_
    refine qv_goto C (tgt := 14) (by decide) dq_Grp_hasSomethingBehindPoint_10 ?_
    refine qv_zret (b := true) C hR ?_ dq_Grp_hasSomethingBehindPoint_14 (by decide) (by decide)
    refine ⟨congrArg b2 ?_, rfl⟩
    symm
    first | exact decide_eq_true (by omega) | exact decide_eq_false (by omega)

theorem c_Grp_beProduct (cI cJ : ClassId) (g b fi en : Nat) (R : Nat → Nat) (m : Nat) (p : Int) (hm : m < 2 ^ 54) (hp1 : -1075 ≤ p) (hp2 : p ≤ 971) : MtV cI cJ ky_Grp_beProduct kb_Grp_beProduct 5 rm_Grp_beProduct Xt [.ref g, vj ((m : Nat) : Int), vi p] [oc g 1 [.ref b, vi ((fi : Nat) : Int), vi ((en : Nat) : Int)], aj cJ b 160 R] (fun u => ∃ (R2 : Nat → Nat) (fi2 en2 : Nat), u = gw cJ g b fi2 en2 R2 ∧ Pd m p R2 fi2 en2) := by
  refine MtV_in (by decide) (Nat.le_of_ble_eq_true rfl) (fun K C hR hX hN => ?_)
  show V K 5 [oc g 1 [.ref b, vi ((fi : Nat) : Int), vi ((en : Nat) : Int)], aj cJ b 160 R] 0 0 0 [(0, .ref g), (1, vj ((m : Nat) : Int)), (3, vi p)] []
  have hm2 : m < 18014398509481984 := hm
  rcases (show ∃ q : Nat, p = (q : Int) ∨ p = -(q : Int) from ⟨p.natAbs, by omega⟩) with ⟨q, rfl | rfl⟩
  · skip
    have ex : ∀ (lf : Int) (R : Nat → Nat) (fi en : Nat), lf ≤ 0 → -100 ≤ lf → Gd R fi en → en ≤ 35 → dv 1000000000 R 160 = m * 2 ^ q * 10 ^ 1125 → V K 5 [oc g 1 [.ref b, vi ((fi : Nat) : Int), vi ((en : Nat) : Int)], aj cJ b 160 R] 0 0 47 [(0, .ref g), (1, vj ((m : Nat) : Int)), (3, vi ((q : Nat) : Int)), (4, vi lf)] [] := by
      intro lf R fi en h0 h1 hG hs hv
      refine qv_iload C rfl dq_Grp_beProduct_47 ?_
      refine qv_ifle C (by omega) (tgt := 71) (by decide) dq_Grp_beProduct_49 (fun h49 => ?_) (fun h49 => ?_)
      · skip
        refine qv_iload_n C rfl dq_Grp_beProduct_71 ?_
        refine qv_ineg C dq_Grp_beProduct_72 ?_
        refine qv_istore C (lv' := [(4, vi (-((q : Nat) : Int))), (0, .ref g), (1, vj ((m : Nat) : Int)), (3, vi ((q : Nat) : Int))]) (by decide) rfl dq_Grp_beProduct_73 ?_
        refine qv_iload C rfl dq_Grp_beProduct_75 ?_
        refine qv_ifle C (by omega) (tgt := 101) (by decide) dq_Grp_beProduct_77 (fun h77 => ?_) (fun h77 => ?_)
        · skip
          refine qv_vret C hR ?_ dq_Grp_beProduct_101 (by decide) (by decide)
          exact ⟨R, fi, en, rfl, Pd_mul hG hs hv⟩
        · exfalso; omega
      · exfalso; omega
    have loop : ∀ n (r : Nat) (R : Nat → Nat) (fi en : Nat), r ≤ n → r ≤ q → Gd R fi en → en ≤ 35 → dv 1000000000 R 160 = m * 2 ^ (q - r) * 10 ^ 1125 → V K 5 [oc g 1 [.ref b, vi ((fi : Nat) : Int), vi ((en : Nat) : Int)], aj cJ b 160 R] 0 0 47 [(0, .ref g), (1, vj ((m : Nat) : Int)), (3, vi ((q : Nat) : Int)), (4, vi ((r : Nat) : Int))] [] := by
      intro n
      induction n with
      | zero =>
        intro r R fi en h0 hrq hG hs hv
        have er : r = 0 := by omega
        subst er
        exact ex 0 R fi en (by omega) (by omega) hG hs hv
      | succ n ih =>
        intro r R fi en h0 hrq hG hs hv
        by_cases hr0 : r = 0
        · subst hr0
          exact ex 0 R fi en (by omega) (by omega) hG hs hv
        · skip
          refine qv_iload C rfl dq_Grp_beProduct_47 ?_
          refine qv_ifle C (by omega) (tgt := 71) (by decide) dq_Grp_beProduct_49 (fun h49 => ?_) (fun h49 => ?_)
          · exfalso; omega
          · skip
            refine qv_aload_n C rfl dq_Grp_beProduct_52 ?_
            refine qv_iconst C dq_Grp_beProduct_53 ?_
            refine qv_iload C rfl dq_Grp_beProduct_54 ?_
            refine qv_bipush C (by decide) dq_Grp_beProduct_56 ?_
            refine qv_mmin (r := ((min r 32 : Nat) : Int)) C cl_Grp_30 wm_min_s wm_init wm_min_c (by omega) (by omega) (by decide) (Nat.le_of_ble_eq_true rfl) (by decide) (by decide) (by omega) dq_Grp_beProduct_58 ?_
            refine qc_vJ (wr := []) (st := []) C cl_Grp_36 cd_Grp_multiply (c_Grp_multiply cI cJ g b fi en R 0 (min r 32) hG (by omega) (by omega)) (Xok_t K) Xbl_t [0, 1] [] rfl rfl (by decide) (by decide) (by decide) 0 rfl rfl rfl rfl rfl (Nat.le_of_ble_eq_true rfl) (by decide) (by decide) dq_Grp_beProduct_61 (fun z u hu => ?_)
            obtain ⟨R2, fi2, en2, o, rfl, rfl, hM⟩ := hu
            show V K 5 [oc g 1 [.ref b, vi ((fi2 : Nat) : Int), vi ((en2 : Nat) : Int)], aj cJ b 160 R2] 0 0 64 [(0, .ref g), (1, vj ((m : Nat) : Int)), (3, vi ((q : Nat) : Int)), (4, vi ((r : Nat) : Int))] [vj ((o : Nat) : Int)]
            refine qv_pop2 C rfl dq_Grp_beProduct_64 ?_
            refine qv_iinc C (j := 3) (lv' := [(4, vi (((r : Nat) : Int) - 32)), (0, .ref g), (1, vj ((m : Nat) : Int)), (3, vi ((q : Nat) : Int))]) (by omega) rfl (by decide) rfl dq_Grp_beProduct_65 ?_
            refine qv_goto C (tgt := 47) (by decide) dq_Grp_beProduct_68 ?_
            refine qv_lv [1, 2, 3, 0] (lv' := [(0, .ref g), (1, vj ((m : Nat) : Int)), (3, vi ((q : Nat) : Int)), (4, vi (((r : Nat) : Int) - 32))]) rfl ?_
            have hw := pr_mul hv hm (by omega) hM
            by_cases q32 : 32 ≤ r
            · rw [show q - r + min r 32 = q - (r - 32) by omega] at hw
              have e : (((r : Nat) : Int) - 32) = ((r - 32 : Nat) : Int) := by omega
              rw [e]
              exact ih (r - 32) R2 fi2 en2 (by omega) (by omega) hM.1 (by have := hM.2.1; omega) hw
            · rw [show q - r + min r 32 = q by omega] at hw
              exact ex _ R2 fi2 en2 (by omega) (by omega) hM.1 (by have := hM.2.1; omega) hw
    refine qv_aload_n C rfl dq_Grp_beProduct_0 ?_
    refine qv_get C fl_Grp_11 0 rfl rfl dq_Grp_beProduct_1 ?_
    refine qv_lconst C (z := 0) (by decide) dq_Grp_beProduct_4 ?_
    refine qc_sV (wr := [oc g 1 [.ref b, vi ((fi : Nat) : Int), vi ((en : Nat) : Int)]]) (st := []) C cl_Grp_22 cd_JArr_fill (c_JArr_fill cI cJ b 160 0 R (by omega)) (Xok_t K) Xbl_t [1] [0] rfl rfl (by decide) (by decide) (by decide) rfl rfl (Nat.le_of_ble_eq_true rfl) (by decide) (by decide) dq_Grp_beProduct_5 (fun u hu => ?_)
    obtain rfl := hu
    show V K 5 [oc g 1 [.ref b, vi ((fi : Nat) : Int), vi ((en : Nat) : Int)], aj cJ b 160 (fun _ => 0)] 0 0 8 [(0, .ref g), (1, vj ((m : Nat) : Int)), (3, vi ((q : Nat) : Int))] []
    refine qv_aload_n C rfl dq_Grp_beProduct_8 ?_
    refine qv_get C fl_Grp_11 0 rfl rfl dq_Grp_beProduct_9 ?_
    refine qv_bipush C (by decide) dq_Grp_beProduct_12 ?_
    refine qv_lload_n C rfl dq_Grp_beProduct_14 ?_
    refine qv_ldc2 C (z := 1000000000) wk_Grp_28 dq_Grp_beProduct_15 ?_
    refine qv_ldiv C (r := (((m / 1000000000) : Nat) : Int)) (by omega) (by omega) (by omega) (by omega) (by omega) dq_Grp_beProduct_18 ?_
    refine qv_last C (ws' := [oc g 1 [.ref b, vi ((fi : Nat) : Int), vi ((en : Nat) : Int)], aj cJ b 160 (un (fun _ => 0) 33 (m / 1000000000))]) 1 33 (m / 1000000000) rfl (by omega) (by omega) (by omega) (by omega) rfl dq_Grp_beProduct_19 ?_
    refine qv_aload_n C rfl dq_Grp_beProduct_20 ?_
    refine qv_get C fl_Grp_11 0 rfl rfl dq_Grp_beProduct_21 ?_
    refine qv_bipush C (by decide) dq_Grp_beProduct_24 ?_
    refine qv_lload_n C rfl dq_Grp_beProduct_26 ?_
    refine qv_ldc2 C (z := 1000000000) wk_Grp_28 dq_Grp_beProduct_27 ?_
    refine qv_lrem C (r := (((m % 1000000000) : Nat) : Int)) (by omega) (by omega) (by omega) (by omega) (by omega) dq_Grp_beProduct_30 ?_
    refine qv_last C (ws' := [oc g 1 [.ref b, vi ((fi : Nat) : Int), vi ((en : Nat) : Int)], aj cJ b 160 (un (un (fun _ => 0) 33 (m / 1000000000)) 34 (m % 1000000000))]) 1 34 (m % 1000000000) rfl (by omega) (by omega) (by omega) (by omega) rfl dq_Grp_beProduct_31 ?_
    refine qv_aload_n C rfl dq_Grp_beProduct_32 ?_
    refine qv_bipush C (by decide) dq_Grp_beProduct_33 ?_
    refine qv_put C (ws' := [oc g 1 [.ref b, vi 33, vi ((en : Nat) : Int)], aj cJ b 160 (un (un (fun _ => 0) 33 (m / 1000000000)) 34 (m % 1000000000))]) fl_Grp_15 fs_1_1 0 rfl rfl rfl (Nat.le_of_ble_eq_true rfl) rfl dq_Grp_beProduct_35 ?_
    refine qv_aload_n C rfl dq_Grp_beProduct_38 ?_
    refine qv_bipush C (by decide) dq_Grp_beProduct_39 ?_
    refine qv_put C (ws' := [oc g 1 [.ref b, vi 33, vi 35], aj cJ b 160 (un (un (fun _ => 0) 33 (m / 1000000000)) 34 (m % 1000000000))]) fl_Grp_19 fs_1_2 0 rfl rfl rfl (Nat.le_of_ble_eq_true rfl) rfl dq_Grp_beProduct_41 ?_
    refine qv_iload_n C rfl dq_Grp_beProduct_44 ?_
    refine qv_istore C (lv' := [(4, vi ((q : Nat) : Int)), (0, .ref g), (1, vj ((m : Nat) : Int)), (3, vi ((q : Nat) : Int))]) (by decide) rfl dq_Grp_beProduct_45 ?_
    refine qv_lv [1, 2, 3, 0] (lv' := [(0, .ref g), (1, vj ((m : Nat) : Int)), (3, vi ((q : Nat) : Int)), (4, vi ((q : Nat) : Int))]) rfl ?_
    obtain ⟨p1, p2⟩ := pr_0 (m := m) (by omega)
    exact loop q q _ 33 35 (Nat.le_refl _) (Nat.le_refl _) p1 (by omega) (by rw [Nat.sub_self, Nat.pow_zero, Nat.mul_one]; exact p2)
  · skip
    have ex : ∀ (lf : Int) (R : Nat → Nat) (fi en : Nat), lf ≤ 0 → -100 ≤ lf → Gd R fi en → LN R en → dv 1000000000 R 160 * 2 ^ q = m * 10 ^ 1125 → V K 5 [oc g 1 [.ref b, vi ((fi : Nat) : Int), vi ((en : Nat) : Int)], aj cJ b 160 R] 0 0 75 [(0, .ref g), (1, vj ((m : Nat) : Int)), (3, vi (-((q : Nat) : Int))), (4, vi lf)] [] := by
      intro lf R fi en h0 h1 hG hs hv
      refine qv_iload C rfl dq_Grp_beProduct_75 ?_
      refine qv_ifle C (by omega) (tgt := 101) (by decide) dq_Grp_beProduct_77 (fun h77 => ?_) (fun h77 => ?_)
      · skip
        refine qv_vret C hR ?_ dq_Grp_beProduct_101 (by decide) (by decide)
        exact ⟨R, fi, en, rfl, Pd_div hG hs hm (by omega) hv⟩
      · exfalso; omega
    have loop : ∀ n (r : Nat) (R : Nat → Nat) (fi en : Nat), r ≤ n → r ≤ q → Gd R fi en → LN R en → dv 1000000000 R 160 * 2 ^ (q - r) = m * 10 ^ 1125 → V K 5 [oc g 1 [.ref b, vi ((fi : Nat) : Int), vi ((en : Nat) : Int)], aj cJ b 160 R] 0 0 75 [(0, .ref g), (1, vj ((m : Nat) : Int)), (3, vi (-((q : Nat) : Int))), (4, vi ((r : Nat) : Int))] [] := by
      intro n
      induction n with
      | zero =>
        intro r R fi en h0 hrq hG hs hv
        have er : r = 0 := by omega
        subst er
        exact ex 0 R fi en (by omega) (by omega) hG hs hv
      | succ n ih =>
        intro r R fi en h0 hrq hG hs hv
        by_cases hr0 : r = 0
        · subst hr0
          exact ex 0 R fi en (by omega) (by omega) hG hs hv
        · skip
          refine qv_iload C rfl dq_Grp_beProduct_75 ?_
          refine qv_ifle C (by omega) (tgt := 101) (by decide) dq_Grp_beProduct_77 (fun h77 => ?_) (fun h77 => ?_)
          · exfalso; omega
          · skip
            refine qv_aload_n C rfl dq_Grp_beProduct_80 ?_
            refine qv_sipush C (by decide) dq_Grp_beProduct_81 ?_
            refine qv_iload C rfl dq_Grp_beProduct_84 ?_
            refine qv_bipush C (by decide) dq_Grp_beProduct_86 ?_
            refine qv_mmin (r := ((min r 32 : Nat) : Int)) C cl_Grp_30 wm_min_s wm_init wm_min_c (by omega) (by omega) (by decide) (Nat.le_of_ble_eq_true rfl) (by decide) (by decide) (by omega) dq_Grp_beProduct_88 ?_
            refine qc_vJ (wr := []) (st := []) C cl_Grp_40 cd_Grp_divide (c_Grp_divide cI cJ g b fi en R 160 (min r 32) hG (by omega) (by omega)) (Xok_t K) Xbl_t [0, 1] [] rfl rfl (by decide) (by decide) (by decide) 0 rfl rfl rfl rfl rfl (Nat.le_of_ble_eq_true rfl) (by decide) (by decide) dq_Grp_beProduct_91 (fun z u hu => ?_)
            obtain ⟨R2, fi2, en2, o, rfl, rfl, hM⟩ := hu
            show V K 5 [oc g 1 [.ref b, vi ((fi2 : Nat) : Int), vi ((en2 : Nat) : Int)], aj cJ b 160 R2] 0 0 94 [(0, .ref g), (1, vj ((m : Nat) : Int)), (3, vi (-((q : Nat) : Int))), (4, vi ((r : Nat) : Int))] [vj ((o : Nat) : Int)]
            refine qv_pop2 C rfl dq_Grp_beProduct_94 ?_
            refine qv_iinc C (j := 3) (lv' := [(4, vi (((r : Nat) : Int) - 32)), (0, .ref g), (1, vj ((m : Nat) : Int)), (3, vi (-((q : Nat) : Int)))]) (by omega) rfl (by decide) rfl dq_Grp_beProduct_95 ?_
            refine qv_goto C (tgt := 75) (by decide) dq_Grp_beProduct_98 ?_
            refine qv_lv [1, 2, 3, 0] (lv' := [(0, .ref g), (1, vj ((m : Nat) : Int)), (3, vi (-((q : Nat) : Int))), (4, vi (((r : Nat) : Int) - 32))]) rfl ?_
            obtain ⟨ho, hw⟩ := pr_div hv (by omega) hM
            have hL2 := hM.2.2.2.2.2.2 hs (Or.inr ho)
            by_cases q32 : 32 ≤ r
            · rw [show q - r + min r 32 = q - (r - 32) by omega] at hw
              have e : (((r : Nat) : Int) - 32) = ((r - 32 : Nat) : Int) := by omega
              rw [e]
              exact ih (r - 32) R2 fi2 en2 (by omega) (by omega) hM.1 hL2 hw
            · rw [show q - r + min r 32 = q by omega] at hw
              exact ex _ R2 fi2 en2 (by omega) (by omega) hM.1 hL2 hw
    refine qv_aload_n C rfl dq_Grp_beProduct_0 ?_
    refine qv_get C fl_Grp_11 0 rfl rfl dq_Grp_beProduct_1 ?_
    refine qv_lconst C (z := 0) (by decide) dq_Grp_beProduct_4 ?_
    refine qc_sV (wr := [oc g 1 [.ref b, vi ((fi : Nat) : Int), vi ((en : Nat) : Int)]]) (st := []) C cl_Grp_22 cd_JArr_fill (c_JArr_fill cI cJ b 160 0 R (by omega)) (Xok_t K) Xbl_t [1] [0] rfl rfl (by decide) (by decide) (by decide) rfl rfl (Nat.le_of_ble_eq_true rfl) (by decide) (by decide) dq_Grp_beProduct_5 (fun u hu => ?_)
    obtain rfl := hu
    show V K 5 [oc g 1 [.ref b, vi ((fi : Nat) : Int), vi ((en : Nat) : Int)], aj cJ b 160 (fun _ => 0)] 0 0 8 [(0, .ref g), (1, vj ((m : Nat) : Int)), (3, vi (-((q : Nat) : Int)))] []
    refine qv_aload_n C rfl dq_Grp_beProduct_8 ?_
    refine qv_get C fl_Grp_11 0 rfl rfl dq_Grp_beProduct_9 ?_
    refine qv_bipush C (by decide) dq_Grp_beProduct_12 ?_
    refine qv_lload_n C rfl dq_Grp_beProduct_14 ?_
    refine qv_ldc2 C (z := 1000000000) wk_Grp_28 dq_Grp_beProduct_15 ?_
    refine qv_ldiv C (r := (((m / 1000000000) : Nat) : Int)) (by omega) (by omega) (by omega) (by omega) (by omega) dq_Grp_beProduct_18 ?_
    refine qv_last C (ws' := [oc g 1 [.ref b, vi ((fi : Nat) : Int), vi ((en : Nat) : Int)], aj cJ b 160 (un (fun _ => 0) 33 (m / 1000000000))]) 1 33 (m / 1000000000) rfl (by omega) (by omega) (by omega) (by omega) rfl dq_Grp_beProduct_19 ?_
    refine qv_aload_n C rfl dq_Grp_beProduct_20 ?_
    refine qv_get C fl_Grp_11 0 rfl rfl dq_Grp_beProduct_21 ?_
    refine qv_bipush C (by decide) dq_Grp_beProduct_24 ?_
    refine qv_lload_n C rfl dq_Grp_beProduct_26 ?_
    refine qv_ldc2 C (z := 1000000000) wk_Grp_28 dq_Grp_beProduct_27 ?_
    refine qv_lrem C (r := (((m % 1000000000) : Nat) : Int)) (by omega) (by omega) (by omega) (by omega) (by omega) dq_Grp_beProduct_30 ?_
    refine qv_last C (ws' := [oc g 1 [.ref b, vi ((fi : Nat) : Int), vi ((en : Nat) : Int)], aj cJ b 160 (un (un (fun _ => 0) 33 (m / 1000000000)) 34 (m % 1000000000))]) 1 34 (m % 1000000000) rfl (by omega) (by omega) (by omega) (by omega) rfl dq_Grp_beProduct_31 ?_
    refine qv_aload_n C rfl dq_Grp_beProduct_32 ?_
    refine qv_bipush C (by decide) dq_Grp_beProduct_33 ?_
    refine qv_put C (ws' := [oc g 1 [.ref b, vi 33, vi ((en : Nat) : Int)], aj cJ b 160 (un (un (fun _ => 0) 33 (m / 1000000000)) 34 (m % 1000000000))]) fl_Grp_15 fs_1_1 0 rfl rfl rfl (Nat.le_of_ble_eq_true rfl) rfl dq_Grp_beProduct_35 ?_
    refine qv_aload_n C rfl dq_Grp_beProduct_38 ?_
    refine qv_bipush C (by decide) dq_Grp_beProduct_39 ?_
    refine qv_put C (ws' := [oc g 1 [.ref b, vi 33, vi 35], aj cJ b 160 (un (un (fun _ => 0) 33 (m / 1000000000)) 34 (m % 1000000000))]) fl_Grp_19 fs_1_2 0 rfl rfl rfl (Nat.le_of_ble_eq_true rfl) rfl dq_Grp_beProduct_41 ?_
    refine qv_iload_n C rfl dq_Grp_beProduct_44 ?_
    refine qv_istore C (lv' := [(4, vi (-((q : Nat) : Int))), (0, .ref g), (1, vj ((m : Nat) : Int)), (3, vi (-((q : Nat) : Int)))]) (by decide) rfl dq_Grp_beProduct_45 ?_
    refine qv_iload C rfl dq_Grp_beProduct_47 ?_
    refine qv_ifle C (by omega) (tgt := 71) (by decide) dq_Grp_beProduct_49 (fun h49 => ?_) (fun h49 => ?_)
    · skip
      refine qv_iload_n C rfl dq_Grp_beProduct_71 ?_
      refine qv_ineg C dq_Grp_beProduct_72 ?_
      refine qv_ti (r := ((q : Nat) : Int)) (by omega) ?_
      refine qv_istore C (lv' := [(4, vi ((q : Nat) : Int)), (0, .ref g), (1, vj ((m : Nat) : Int)), (3, vi (-((q : Nat) : Int)))]) (by decide) rfl dq_Grp_beProduct_73 ?_
      refine qv_lv [1, 2, 3, 0] (lv' := [(0, .ref g), (1, vj ((m : Nat) : Int)), (3, vi (-((q : Nat) : Int))), (4, vi ((q : Nat) : Int))]) rfl ?_
      obtain ⟨p1, p2⟩ := pr_0 (m := m) (by omega)
      exact loop q q _ 33 35 (Nat.le_refl _) (Nat.le_refl _) p1 (Or.inl (by omega)) (by rw [Nat.sub_self, Nat.pow_zero, Nat.mul_one]; exact p2)
    · exfalso; omega
end
section
theorem c_Tru_factorOf (cI cJ : ClassId) (r : Nat) (hr : r < 9223372036854775808) : MtJ cI cJ ky_Tru_factorOf kb_Tru_factorOf 4 rm_Tru_factorOf Xt [vj ((r : Nat) : Int)] [] (fun z u => z = ((fc r : Nat) : Int) ∧ u = []) := by
  refine MtJ_in (by decide) (Nat.le_of_ble_eq_true rfl) (fun K C hR hX hN => ?_)
  show V K 4 [] 0 0 0 [(0, vj ((r : Nat) : Int))] []
  refine qv_lload_n C rfl dq_Tru_factorOf_0 ?_
  refine qv_ldc2 C (z := 4503599627370495) wk_Tru_179 dq_Tru_factorOf_1 ?_
  refine qv_land C (r := (((r % 4503599627370496) : Nat) : Int)) (zj_and (a := r) (b := 52) (by omega)) dq_Tru_factorOf_4 ?_
  refine qv_lstore_n C (lv' := [(2, vj (((r % 4503599627370496) : Nat) : Int)), (0, vj ((r : Nat) : Int))]) (by decide) rfl dq_Tru_factorOf_5 ?_
  refine qv_lload_n C rfl dq_Tru_factorOf_6 ?_
  refine qv_ldc2 C (z := 4503599627370495) wk_Tru_179 dq_Tru_factorOf_7 ?_
  refine qv_lcle C (by omega) (by omega) dq_Tru_factorOf_10 (tgt := 24) (by decide) dq_Tru_factorOf_11 (fun h10 => ?_) (fun h10 => ?_)
  · skip
    refine qv_lload_n C rfl dq_Tru_factorOf_24 ?_
    refine qv_lret C hR ?_ dq_Tru_factorOf_25 (by decide) (by decide)
    refine ⟨?_, rfl⟩
    unfold fc
    first | (rw [if_pos (by omega)] <;> omega) | (rw [if_neg (by omega)] <;> omega)
  · skip
    refine qv_lload_n C rfl dq_Tru_factorOf_14 ?_
    refine qv_ldc2 C (z := 4503599627370495) wk_Tru_179 dq_Tru_factorOf_15 ?_
    refine qv_ladd C (r := ((((r % 4503599627370496) + 4503599627370495) : Nat) : Int)) (by omega) dq_Tru_factorOf_18 ?_
    refine qv_lconst C (z := 1) (by decide) dq_Tru_factorOf_19 ?_
    refine qv_ladd C (r := ((((r % 4503599627370496) + 4503599627370496) : Nat) : Int)) (by omega) dq_Tru_factorOf_20 ?_
    refine qv_goto C (tgt := 25) (by decide) dq_Tru_factorOf_21 ?_
    refine qv_lret C hR ?_ dq_Tru_factorOf_25 (by decide) (by decide)
    refine ⟨?_, rfl⟩
    unfold fc
    first | (rw [if_pos (by omega)] <;> omega) | (rw [if_neg (by omega)] <;> omega)

theorem c_Tru_powerOf (cI cJ : ClassId) (r : Nat) (hr : r < 9223372036854775808) : MtI cI cJ ky_Tru_powerOf kb_Tru_powerOf 3 .int rm_Tru_powerOf Xt [vj ((r : Nat) : Int)] [] (fun z u => z = ((pw r : Nat) : Int) - 1074 ∧ u = []) := by
  refine MtI_in (by decide) (Nat.le_of_ble_eq_true rfl) (fun K C hR hX hN => ?_)
  show V K 3 [] 0 0 0 [(0, vj ((r : Nat) : Int))] []
  refine qv_lload_n C rfl dq_Tru_powerOf_0 ?_
  refine qv_bipush C (by decide) dq_Tru_powerOf_1 ?_
  refine qv_lushr C r 52 (by omega) (by omega) (by omega) (by omega) dq_Tru_powerOf_3 ?_
  refine qv_l2i C dq_Tru_powerOf_4 ?_
  refine qv_istore_n C (lv' := [(2, vi ((r / 2 ^ 52 : Nat) : Int)), (0, vj ((r : Nat) : Int))]) (by decide) rfl dq_Tru_powerOf_5 ?_
  refine qv_sipush C (by decide) dq_Tru_powerOf_6 ?_
  refine qv_iload_n C rfl dq_Tru_powerOf_9 ?_
  refine qv_iconst C dq_Tru_powerOf_10 ?_
  refine qv_mmax (r := ((max (r / 2 ^ 52) 1 : Nat) : Int)) C cl_Tru_181 wm_max_s wm_init wm_max_c (by omega) (by omega) (by decide) (Nat.le_of_ble_eq_true rfl) (by decide) (by decide) (by omega) dq_Tru_powerOf_11 ?_
  refine qv_iadd C (r := ((-1074) + ((max (r / 2 ^ 52) 1 : Nat) : Int))) rfl dq_Tru_powerOf_14 ?_
  refine qv_iconst C dq_Tru_powerOf_15 ?_
  refine qv_isub C (r := (((-1074) + ((max (r / 2 ^ 52) 1 : Nat) : Int)) - 1)) rfl dq_Tru_powerOf_16 ?_
  refine qv_iret C hR ?_ dq_Tru_powerOf_17 (by decide) (by decide)
  refine ⟨?_, rfl⟩
  unfold pw
  omega

theorem c_Tru_forgetWhatCame (cI cJ : ClassId) (x k g w t l hi : Nat) (mi : Bool) (zr : Nat) (pt : Int) : MtV cI cJ ky_Tru_forgetWhatCame kb_Tru_forgetWhatCame 1 rm_Tru_forgetWhatCame Xt [.ref x] [oc x 3 [.ref k, vi (b2 mi), vi ((zr : Nat) : Int), vi pt, .ref g, .ref w, .ref t, .ref l, .ref hi]] (fun u => u = [xo x k g w t l hi mi 0 0]) := by
  refine MtV_in (by decide) (Nat.le_of_ble_eq_true rfl) (fun K C hR hX hN => ?_)
  show V K 1 [oc x 3 [.ref k, vi (b2 mi), vi ((zr : Nat) : Int), vi pt, .ref g, .ref w, .ref t, .ref l, .ref hi]] 0 0 0 [(0, .ref x)] []
  refine qv_aload_n C rfl dq_Tru_forgetWhatCame_0 ?_
  refine qv_iconst C dq_Tru_forgetWhatCame_1 ?_
  refine qv_put C (ws' := [oc x 3 [.ref k, vi (b2 mi), vi 0, vi pt, .ref g, .ref w, .ref t, .ref l, .ref hi]]) fl_Tru_91 fs_3_2 0 rfl rfl rfl (Nat.le_of_ble_eq_true rfl) rfl dq_Tru_forgetWhatCame_2 ?_
  refine qv_aload_n C rfl dq_Tru_forgetWhatCame_5 ?_
  refine qv_iconst C dq_Tru_forgetWhatCame_6 ?_
  refine qv_put C (ws' := [oc x 3 [.ref k, vi (b2 mi), vi 0, vi 0, .ref g, .ref w, .ref t, .ref l, .ref hi]]) fl_Tru_88 fs_3_3 0 rfl rfl rfl (Nat.le_of_ble_eq_true rfl) rfl dq_Tru_forgetWhatCame_7 ?_
  refine qv_vret C hR ?_ dq_Tru_forgetWhatCame_10 (by decide) (by decide)
  rfl

theorem c_Tru_spell (cI cJ : ClassId) (x k g w t l hi : Nat) (mi : Bool) (zr : Nat) (pt : Int) (b fi en : Nat) (R : Nat → Nat) (d da len : Nat) (pl : Int) (f : Nat → Nat) (hf : ∀ i, f i ≤ 9) (m : Nat) (p : Int) (hm : m < 2 ^ 54) (hp1 : -1075 ≤ p) (hp2 : p ≤ 971) : MtV cI cJ ky_Tru_spell kb_Tru_spell 5 rm_Tru_spell Xt [.ref x, vj ((m : Nat) : Int), vi p, .ref d] [oc x 3 [.ref k, vi (b2 mi), vi ((zr : Nat) : Int), vi pt, .ref g, .ref w, .ref t, .ref l, .ref hi], oc g 1 [.ref b, vi ((fi : Nat) : Int), vi ((en : Nat) : Int)], aj cJ b 160 R, oc d 0 [.ref da, vi ((len : Nat) : Int), vi pl], ai cI da 800 f] (fun u => ∃ (R2 : Nat → Nat) (fi2 en2 len2 : Nat) (pl2 : Int) (f2 : Nat → Nat), u = xo x k g w t l hi mi zr pt :: (gw cJ g b fi2 en2 R2 ++ dw cI d da len2 pl2 f2) ∧ Sp m p len2 pl2 f2) := by
  refine MtV_in (by decide) (Nat.le_of_ble_eq_true rfl) (fun K C hR hX hN => ?_)
  show V K 5 [oc x 3 [.ref k, vi (b2 mi), vi ((zr : Nat) : Int), vi pt, .ref g, .ref w, .ref t, .ref l, .ref hi], oc g 1 [.ref b, vi ((fi : Nat) : Int), vi ((en : Nat) : Int)], aj cJ b 160 R, oc d 0 [.ref da, vi ((len : Nat) : Int), vi pl], ai cI da 800 f] 0 0 0 [(0, .ref x), (1, vj ((m : Nat) : Int)), (3, vi p), (4, .ref d)] []
  refine qv_aload_n C rfl dq_Tru_spell_0 ?_
  refine qv_get C fl_Tru_19 0 rfl rfl dq_Tru_spell_1 ?_
  refine qv_lload_n C rfl dq_Tru_spell_4 ?_
  refine qv_iload_n C rfl dq_Tru_spell_5 ?_
  refine qc_vV (wr := [oc x 3 [.ref k, vi (b2 mi), vi ((zr : Nat) : Int), vi pt, .ref g, .ref w, .ref t, .ref l, .ref hi], oc d 0 [.ref da, vi ((len : Nat) : Int), vi pl], ai cI da 800 f]) (st := []) C cl_Tru_172 cd_Grp_beProduct (c_Grp_beProduct cI cJ g b fi en R m p hm hp1 hp2) (Xok_t K) Xbl_t [1, 2] [0, 3, 4] rfl rfl (by decide) (by decide) (by decide) 0 rfl rfl rfl rfl rfl (Nat.le_of_ble_eq_true rfl) (by decide) (by decide) dq_Tru_spell_6 (fun u hu => ?_)
  obtain ⟨R2, fi2, en2, rfl, hPd⟩ := hu
  show V K 5 [oc x 3 [.ref k, vi (b2 mi), vi ((zr : Nat) : Int), vi pt, .ref g, .ref w, .ref t, .ref l, .ref hi], oc d 0 [.ref da, vi ((len : Nat) : Int), vi pl], ai cI da 800 f, oc g 1 [.ref b, vi ((fi2 : Nat) : Int), vi ((en2 : Nat) : Int)], aj cJ b 160 R2] 0 0 9 [(0, .ref x), (1, vj ((m : Nat) : Int)), (3, vi p), (4, .ref d)] []
  refine qv_aload C rfl dq_Tru_spell_9 ?_
  refine qv_aload_n C rfl dq_Tru_spell_11 ?_
  refine qv_get C fl_Tru_19 0 rfl rfl dq_Tru_spell_12 ?_
  refine qc_vV (wr := [oc x 3 [.ref k, vi (b2 mi), vi ((zr : Nat) : Int), vi pt, .ref g, .ref w, .ref t, .ref l, .ref hi]]) (st := []) C cl_Tru_176 cd_Dec_read (c_Dec_read cI cJ d da len pl f g b fi2 en2 R2 hf hPd.1 hPd.2.2) (Xok_t K) Xbl_t [1, 2, 3, 4] [0] rfl rfl (by decide) (by decide) (by decide) 0 rfl rfl rfl rfl rfl (Nat.le_of_ble_eq_true rfl) (by decide) (by decide) dq_Tru_spell_15 (fun u hu => ?_)
  obtain ⟨len2, pl2, f2, rfl, hRd⟩ := hu
  show V K 5 [oc x 3 [.ref k, vi (b2 mi), vi ((zr : Nat) : Int), vi pt, .ref g, .ref w, .ref t, .ref l, .ref hi], oc d 0 [.ref da, vi ((len2 : Nat) : Int), vi pl2], ai cI da 800 f2, oc g 1 [.ref b, vi ((fi2 : Nat) : Int), vi ((en2 : Nat) : Int)], aj cJ b 160 R2] 0 0 18 [(0, .ref x), (1, vj ((m : Nat) : Int)), (3, vi p), (4, .ref d)] []
  refine qv_ws [0, 3, 4, 1, 2] (ws' := [oc x 3 [.ref k, vi (b2 mi), vi ((zr : Nat) : Int), vi pt, .ref g, .ref w, .ref t, .ref l, .ref hi], oc g 1 [.ref b, vi ((fi2 : Nat) : Int), vi ((en2 : Nat) : Int)], aj cJ b 160 R2, oc d 0 [.ref da, vi ((len2 : Nat) : Int), vi pl2], ai cI da 800 f2]) (by decide) rfl ?_
  refine qv_vret C hR ?_ dq_Tru_spell_18 (by decide) (by decide)
  exact ⟨R2, fi2, en2, len2, pl2, f2, rfl, Sp_of hPd hRd⟩

theorem c_Tru_spellMiddleAbove (cI cJ : ClassId) (x k g w t l hi : Nat) (mi : Bool) (zr : Nat) (pt : Int) (b fi en : Nat) (R : Nat → Nat) (d da len : Nat) (pl : Int) (f : Nat → Nat) (hf : ∀ i, f i ≤ 9) (r : Nat) (hr : r < 9218868437227405312) : MtV cI cJ ky_Tru_spellMiddleAbove kb_Tru_spellMiddleAbove 4 rm_Tru_spellMiddleAbove Xt [.ref x, vj ((r : Nat) : Int), .ref d] [oc x 3 [.ref k, vi (b2 mi), vi ((zr : Nat) : Int), vi pt, .ref g, .ref w, .ref t, .ref l, .ref hi], oc g 1 [.ref b, vi ((fi : Nat) : Int), vi ((en : Nat) : Int)], aj cJ b 160 R, oc d 0 [.ref da, vi ((len : Nat) : Int), vi pl], ai cI da 800 f] (fun u => ∃ (R2 : Nat → Nat) (fi2 en2 len2 : Nat) (pl2 : Int) (f2 : Nat → Nat), u = xo x k g w t l hi mi zr pt :: (gw cJ g b fi2 en2 R2 ++ dw cI d da len2 pl2 f2) ∧ Sp (2 * fc r + 1) (((pw r : Nat) : Int) - 1075) len2 pl2 f2) := by
  refine MtV_in (by decide) (Nat.le_of_ble_eq_true rfl) (fun K C hR hX hN => ?_)
  show V K 4 [oc x 3 [.ref k, vi (b2 mi), vi ((zr : Nat) : Int), vi pt, .ref g, .ref w, .ref t, .ref l, .ref hi], oc g 1 [.ref b, vi ((fi : Nat) : Int), vi ((en : Nat) : Int)], aj cJ b 160 R, oc d 0 [.ref da, vi ((len : Nat) : Int), vi pl], ai cI da 800 f] 0 0 0 [(0, .ref x), (1, vj ((r : Nat) : Int)), (3, .ref d)] []
  have h1 := fc_lt r
  have h2 := pw_lt hr
  refine qv_aload_n C rfl dq_Tru_spellMiddleAbove_0 ?_
  refine qv_ldc2 C (z := 2) wk_Tru_170 dq_Tru_spellMiddleAbove_1 ?_
  refine qv_lload_n C rfl dq_Tru_spellMiddleAbove_4 ?_
  refine qc_sJ (wr := [oc x 3 [.ref k, vi (b2 mi), vi ((zr : Nat) : Int), vi pt, .ref g, .ref w, .ref t, .ref l, .ref hi], oc g 1 [.ref b, vi ((fi : Nat) : Int), vi ((en : Nat) : Int)], aj cJ b 160 R, oc d 0 [.ref da, vi ((len : Nat) : Int), vi pl], ai cI da 800 f]) (st := [vj 2, .ref x]) C cl_Tru_54 cd_Tru_factorOf (c_Tru_factorOf cI cJ r (by omega)) (Xok_t K) Xbl_t [] [0, 1, 2, 3, 4] rfl rfl (by decide) (by decide) (by decide) rfl rfl (Nat.le_of_ble_eq_true rfl) (by decide) (by decide) dq_Tru_spellMiddleAbove_5 (fun z u hu => ?_)
  obtain ⟨rfl, rfl⟩ := hu
  show V K 4 [oc x 3 [.ref k, vi (b2 mi), vi ((zr : Nat) : Int), vi pt, .ref g, .ref w, .ref t, .ref l, .ref hi], oc g 1 [.ref b, vi ((fi : Nat) : Int), vi ((en : Nat) : Int)], aj cJ b 160 R, oc d 0 [.ref da, vi ((len : Nat) : Int), vi pl], ai cI da 800 f] 0 0 8 [(0, .ref x), (1, vj ((r : Nat) : Int)), (3, .ref d)] [vj ((fc r : Nat) : Int), vj 2, .ref x]
  refine qv_lmul C (r := (((2 * fc r) : Nat) : Int)) (by omega) dq_Tru_spellMiddleAbove_8 ?_
  refine qv_lconst C (z := 1) (by decide) dq_Tru_spellMiddleAbove_9 ?_
  refine qv_ladd C (r := ((((2 * fc r) + 1) : Nat) : Int)) (by omega) dq_Tru_spellMiddleAbove_10 ?_
  refine qv_lload_n C rfl dq_Tru_spellMiddleAbove_11 ?_
  refine qc_sI (wr := [oc x 3 [.ref k, vi (b2 mi), vi ((zr : Nat) : Int), vi pt, .ref g, .ref w, .ref t, .ref l, .ref hi], oc g 1 [.ref b, vi ((fi : Nat) : Int), vi ((en : Nat) : Int)], aj cJ b 160 R, oc d 0 [.ref da, vi ((len : Nat) : Int), vi pl], ai cI da 800 f]) (st := [vj ((((2 * fc r) + 1) : Nat) : Int), .ref x]) C cl_Tru_58 cd_Tru_powerOf (c_Tru_powerOf cI cJ r (by omega)) (Xok_t K) Xbl_t [] [0, 1, 2, 3, 4] rfl rfl (by decide) (by decide) (by decide) rfl rfl (Nat.le_of_ble_eq_true rfl) (by decide) (by decide) dq_Tru_spellMiddleAbove_12 (fun z u hu => ?_)
  obtain ⟨rfl, rfl⟩ := hu
  show V K 4 [oc x 3 [.ref k, vi (b2 mi), vi ((zr : Nat) : Int), vi pt, .ref g, .ref w, .ref t, .ref l, .ref hi], oc g 1 [.ref b, vi ((fi : Nat) : Int), vi ((en : Nat) : Int)], aj cJ b 160 R, oc d 0 [.ref da, vi ((len : Nat) : Int), vi pl], ai cI da 800 f] 0 0 15 [(0, .ref x), (1, vj ((r : Nat) : Int)), (3, .ref d)] [vi (((pw r : Nat) : Int) - 1074), vj ((((2 * fc r) + 1) : Nat) : Int), .ref x]
  refine qv_iconst C dq_Tru_spellMiddleAbove_15 ?_
  refine qv_isub C (r := (((pw r : Nat) : Int) - 1075)) (by omega) dq_Tru_spellMiddleAbove_16 ?_
  refine qv_aload_n C rfl dq_Tru_spellMiddleAbove_17 ?_
  refine qc_vV (wr := []) (st := []) C cl_Tru_62 cd_Tru_spell (c_Tru_spell cI cJ x k g w t l hi mi zr pt b fi en R d da len pl f hf (2 * fc r + 1) (((pw r : Nat) : Int) - 1075) (by omega) (by omega) (by omega)) (Xok_t K) Xbl_t [0, 1, 2, 3, 4] [] rfl rfl (by decide) (by decide) (by decide) 0 rfl rfl rfl rfl rfl (Nat.le_of_ble_eq_true rfl) (by decide) (by decide) dq_Tru_spellMiddleAbove_18 (fun u hu => ?_)
  obtain ⟨R2, fi2, en2, len2, pl2, f2, rfl, hS⟩ := hu
  show V K 4 [oc x 3 [.ref k, vi (b2 mi), vi ((zr : Nat) : Int), vi pt, .ref g, .ref w, .ref t, .ref l, .ref hi], oc g 1 [.ref b, vi ((fi2 : Nat) : Int), vi ((en2 : Nat) : Int)], aj cJ b 160 R2, oc d 0 [.ref da, vi ((len2 : Nat) : Int), vi pl2], ai cI da 800 f2] 0 0 21 [(0, .ref x), (1, vj ((r : Nat) : Int)), (3, .ref d)] []
  refine qv_vret C hR ?_ dq_Tru_spellMiddleAbove_21 (by decide) (by decide)
  exact ⟨R2, fi2, en2, len2, pl2, f2, rfl, hS⟩

theorem c_Tru_hasNoRoomFor (cI cJ : ClassId) (x k g w t l hi : Nat) (mi : Bool) (zr : Nat) (pt : Int) (ka len : Nat) (pl : Int) (f : Nat → Nat) (d : Nat) (hl : len ≤ 800) (hz : zr ≤ 800) (hpt : -10000 ≤ pt ∧ pt ≤ 10000) (hd : d ≤ 9) : MtI cI cJ ky_Tru_hasNoRoomFor kb_Tru_hasNoRoomFor 2 .boolean rm_Tru_hasNoRoomFor Xt [.ref x, vi ((d : Nat) : Int)] [oc x 3 [.ref k, vi (b2 mi), vi ((zr : Nat) : Int), vi pt, .ref g, .ref w, .ref t, .ref l, .ref hi], oc k 0 [.ref ka, vi ((len : Nat) : Int), vi pl], ai cI ka 800 f] (fun z u => ∃ nr : Bool, z = b2 nr ∧ (nr = true ↔ (len = 0 ∧ d = 0 ∧ pt < -1000) ∨ (len ≠ 0 ∧ 800 ≤ len + zr)) ∧ u = xo x k g w t l hi mi zr pt :: dw cI k ka len pl f) := by
  refine MtI_in (by decide) (Nat.le_of_ble_eq_true rfl) (fun K C hR hX hN => ?_)
  show V K 2 [oc x 3 [.ref k, vi (b2 mi), vi ((zr : Nat) : Int), vi pt, .ref g, .ref w, .ref t, .ref l, .ref hi], oc k 0 [.ref ka, vi ((len : Nat) : Int), vi pl], ai cI ka 800 f] 0 0 0 [(0, .ref x), (1, vi ((d : Nat) : Int))] []
  refine qv_aload_n C rfl dq_Tru_hasNoRoomFor_0 ?_
  refine qv_get C fl_Tru_12 0 rfl rfl dq_Tru_hasNoRoomFor_1 ?_
  refine qv_get C fl_Tru_69 1 rfl rfl dq_Tru_hasNoRoomFor_4 ?_
  refine qv_ifne C (by omega) (tgt := 30) (by decide) dq_Tru_hasNoRoomFor_7 (fun h7 => ?_) (fun h7 => ?_)
  · skip
    refine qv_aload_n C rfl dq_Tru_hasNoRoomFor_30 ?_
    refine qv_get C fl_Tru_12 0 rfl rfl dq_Tru_hasNoRoomFor_31 ?_
    refine qv_get C fl_Tru_69 1 rfl rfl dq_Tru_hasNoRoomFor_34 ?_
    refine qv_aload_n C rfl dq_Tru_hasNoRoomFor_37 ?_
    refine qv_get C fl_Tru_91 0 rfl rfl dq_Tru_hasNoRoomFor_38 ?_
    refine qv_iadd C (r := (((len + zr) : Nat) : Int)) (by omega) dq_Tru_hasNoRoomFor_41 ?_
    refine qv_sipush C (by decide) dq_Tru_hasNoRoomFor_42 ?_
    refine qv_iclt C (by omega) (by omega) (tgt := 52) (by decide) dq_Tru_hasNoRoomFor_45 (fun h45 => ?_) (fun h45 => ?_)
    · skip
      refine qv_iconst C dq_Tru_hasNoRoomFor_52 ?_
      refine qv_zret (b := false) C hR ?_ dq_Tru_hasNoRoomFor_53 (by decide) (by decide)
      exact ⟨false, rfl, ⟨fun h => (by cases h), fun h => (by exfalso; omega)⟩, rfl⟩
    · skip
      refine qv_iconst C dq_Tru_hasNoRoomFor_48 ?_
      refine qv_goto C (tgt := 53) (by decide) dq_Tru_hasNoRoomFor_49 ?_
      refine qv_zret (b := true) C hR ?_ dq_Tru_hasNoRoomFor_53 (by decide) (by decide)
      exact ⟨true, rfl, ⟨fun _ => by omega, fun _ => rfl⟩, rfl⟩
  · skip
    refine qv_iload_n C rfl dq_Tru_hasNoRoomFor_10 ?_
    refine qv_ifne C (by omega) (tgt := 28) (by decide) dq_Tru_hasNoRoomFor_11 (fun h11 => ?_) (fun h11 => ?_)
    · skip
      refine qv_iconst C dq_Tru_hasNoRoomFor_28 ?_
      refine qv_zret (b := false) C hR ?_ dq_Tru_hasNoRoomFor_29 (by decide) (by decide)
      exact ⟨false, rfl, ⟨fun h => (by cases h), fun h => (by exfalso; omega)⟩, rfl⟩
    · skip
      refine qv_aload_n C rfl dq_Tru_hasNoRoomFor_14 ?_
      refine qv_get C fl_Tru_88 0 rfl rfl dq_Tru_hasNoRoomFor_15 ?_
      refine qv_sipush C (by decide) dq_Tru_hasNoRoomFor_18 ?_
      refine qv_icge C (by omega) (by omega) (tgt := 28) (by decide) dq_Tru_hasNoRoomFor_21 (fun h21 => ?_) (fun h21 => ?_)
      · skip
        refine qv_iconst C dq_Tru_hasNoRoomFor_28 ?_
        refine qv_zret (b := false) C hR ?_ dq_Tru_hasNoRoomFor_29 (by decide) (by decide)
        exact ⟨false, rfl, ⟨fun h => (by cases h), fun h => (by exfalso; omega)⟩, rfl⟩
      · skip
        refine qv_iconst C dq_Tru_hasNoRoomFor_24 ?_
        refine qv_goto C (tgt := 29) (by decide) dq_Tru_hasNoRoomFor_25 ?_
        refine qv_zret (b := true) C hR ?_ dq_Tru_hasNoRoomFor_29 (by decide) (by decide)
        exact ⟨true, rfl, ⟨fun _ => by omega, fun _ => rfl⟩, rfl⟩

theorem c_Tru_bringDigit (cI cJ : ClassId) (x k g w t l hi : Nat) (mi : Bool) (zr : Nat) (pt : Int) (ka len : Nat) (pl : Int) (f : Nat → Nat) (d : Nat) (hr : len + zr < 800) (hd : d ≤ 9) : MtV cI cJ ky_Tru_bringDigit kb_Tru_bringDigit 3 rm_Tru_bringDigit Xt [.ref x, vi ((d : Nat) : Int)] [oc x 3 [.ref k, vi (b2 mi), vi ((zr : Nat) : Int), vi pt, .ref g, .ref w, .ref t, .ref l, .ref hi], oc k 0 [.ref ka, vi ((len : Nat) : Int), vi pl], ai cI ka 800 f] (fun u => u = xo x k g w t l hi mi 0 pt :: dw cI k ka (len + zr + 1) (if len = 0 then pt else pl) (un (zf f len zr) (len + zr) d)) := by
  refine MtV_in (by decide) (Nat.le_of_ble_eq_true rfl) (fun K C hR hX hN => ?_)
  show V K 3 [oc x 3 [.ref k, vi (b2 mi), vi ((zr : Nat) : Int), vi pt, .ref g, .ref w, .ref t, .ref l, .ref hi], oc k 0 [.ref ka, vi ((len : Nat) : Int), vi pl], ai cI ka 800 f] 0 0 0 [(0, .ref x), (1, vi ((d : Nat) : Int))] []
  have loop : ∀ n i, i + n = zr → ∀ p : Int, p = (if len = 0 then pt else pl) → V K 3 [oc x 3 [.ref k, vi (b2 mi), vi ((zr : Nat) : Int), vi pt, .ref g, .ref w, .ref t, .ref l, .ref hi], oc k 0 [.ref ka, vi (((len + i) : Nat) : Int), vi p], ai cI ka 800 (zf f len i)] 0 0 23 [(0, .ref x), (1, vi ((d : Nat) : Int)), (2, vi ((i : Nat) : Int))] [] := by
    intro n
    induction n with
    | zero =>
      intro i hin p hp
      have ei : i = zr := by omega
      subst ei
      refine qv_iload_n C rfl dq_Tru_bringDigit_23 ?_
      refine qv_aload_n C rfl dq_Tru_bringDigit_24 ?_
      refine qv_get C fl_Tru_91 0 rfl rfl dq_Tru_bringDigit_25 ?_
      refine qv_icge C (by omega) (by omega) (tgt := 45) (by decide) dq_Tru_bringDigit_28 (fun h28 => ?_) (fun h28 => ?_)
      · skip
        refine qv_aload_n C rfl dq_Tru_bringDigit_45 ?_
        refine qv_iconst C dq_Tru_bringDigit_46 ?_
        refine qv_put C (ws' := [oc x 3 [.ref k, vi (b2 mi), vi 0, vi pt, .ref g, .ref w, .ref t, .ref l, .ref hi], oc k 0 [.ref ka, vi (((len + i) : Nat) : Int), vi p], ai cI ka 800 (zf f len i)]) fl_Tru_91 fs_3_2 0 rfl rfl rfl (Nat.le_of_ble_eq_true rfl) rfl dq_Tru_bringDigit_47 ?_
        refine qv_aload_n C rfl dq_Tru_bringDigit_50 ?_
        refine qv_get C fl_Tru_12 0 rfl rfl dq_Tru_bringDigit_51 ?_
        refine qv_iload_n C rfl dq_Tru_bringDigit_54 ?_
        refine qc_vV (wr := [oc x 3 [.ref k, vi (b2 mi), vi 0, vi pt, .ref g, .ref w, .ref t, .ref l, .ref hi]]) (st := []) C cl_Tru_134 cd_Dec_append (c_Dec_append cI cJ k ka (len + i) p (zf f len i) d (by omega)) (Xok_t K) Xbl_t [1, 2] [0] rfl rfl (by decide) (by decide) (by decide) 0 rfl rfl rfl rfl rfl (Nat.le_of_ble_eq_true rfl) (by decide) (by decide) dq_Tru_bringDigit_55 (fun u hu => ?_)
        obtain rfl := hu
        show V K 3 [oc x 3 [.ref k, vi (b2 mi), vi 0, vi pt, .ref g, .ref w, .ref t, .ref l, .ref hi], oc k 0 [.ref ka, vi ((apL (len + i) : Nat) : Int), vi p], ai cI ka 800 (apF (zf f len i) (len + i) d)] 0 0 58 [(0, .ref x), (1, vi ((d : Nat) : Int)), (2, vi ((i : Nat) : Int))] []
        refine qv_vret C hR ?_ dq_Tru_bringDigit_58 (by decide) (by decide)
        show _ = _ :: dw _ _ _ _ _ _
        rw [apL_p (by omega), apF_p (by omega), ← hp]; rfl
      · exfalso; omega
    | succ n ih =>
      intro i hin p hp
      refine qv_iload_n C rfl dq_Tru_bringDigit_23 ?_
      refine qv_aload_n C rfl dq_Tru_bringDigit_24 ?_
      refine qv_get C fl_Tru_91 0 rfl rfl dq_Tru_bringDigit_25 ?_
      refine qv_icge C (by omega) (by omega) (tgt := 45) (by decide) dq_Tru_bringDigit_28 (fun h28 => ?_) (fun h28 => ?_)
      · exfalso; omega
      · skip
        refine qv_aload_n C rfl dq_Tru_bringDigit_31 ?_
        refine qv_get C fl_Tru_12 0 rfl rfl dq_Tru_bringDigit_32 ?_
        refine qv_iconst C dq_Tru_bringDigit_35 ?_
        refine qc_vV (wr := [oc x 3 [.ref k, vi (b2 mi), vi ((zr : Nat) : Int), vi pt, .ref g, .ref w, .ref t, .ref l, .ref hi]]) (st := []) C cl_Tru_134 cd_Dec_append (c_Dec_append cI cJ k ka (len + i) p (zf f len i) 0 (by omega)) (Xok_t K) Xbl_t [1, 2] [0] rfl rfl (by decide) (by decide) (by decide) 0 rfl rfl rfl rfl rfl (Nat.le_of_ble_eq_true rfl) (by decide) (by decide) dq_Tru_bringDigit_36 (fun u hu => ?_)
        obtain rfl := hu
        rw [apL_p (by omega), apF_p (by omega), zf_s]
        show V K 3 [oc x 3 [.ref k, vi (b2 mi), vi ((zr : Nat) : Int), vi pt, .ref g, .ref w, .ref t, .ref l, .ref hi], oc k 0 [.ref ka, vi (((len + i + 1) : Nat) : Int), vi p], ai cI ka 800 (zf f len (i + 1))] 0 0 39 [(0, .ref x), (1, vi ((d : Nat) : Int)), (2, vi ((i : Nat) : Int))] []
        refine qv_iinc C (j := 2) (lv' := [(2, vi (((i + 1) : Nat) : Int)), (0, .ref x), (1, vi ((d : Nat) : Int))]) (by omega) rfl (by decide) rfl dq_Tru_bringDigit_39 ?_
        refine qv_goto C (tgt := 23) (by decide) dq_Tru_bringDigit_42 ?_
        refine qv_lv [1, 2, 0] (lv' := [(0, .ref x), (1, vi ((d : Nat) : Int)), (2, vi (((i + 1) : Nat) : Int))]) rfl ?_
        exact ih (i + 1) (by omega) p hp
  have hpl0 : len = 0 → pt = (if len = 0 then pt else pl) := fun q => (if_pos q).symm
  have hpl1 : len ≠ 0 → pl = (if len = 0 then pt else pl) := fun q => (if_neg q).symm
  refine qv_aload_n C rfl dq_Tru_bringDigit_0 ?_
  refine qv_get C fl_Tru_12 0 rfl rfl dq_Tru_bringDigit_1 ?_
  refine qv_get C fl_Tru_69 1 rfl rfl dq_Tru_bringDigit_4 ?_
  refine qv_ifne C (by omega) (tgt := 21) (by decide) dq_Tru_bringDigit_7 (fun h7 => ?_) (fun h7 => ?_)
  · skip
    refine qv_iconst C dq_Tru_bringDigit_21 ?_
    refine qv_istore_n C (lv' := [(2, vi 0), (0, .ref x), (1, vi ((d : Nat) : Int))]) (by decide) rfl dq_Tru_bringDigit_22 ?_
    refine qv_lv [1, 2, 0] (lv' := [(0, .ref x), (1, vi ((d : Nat) : Int)), (2, vi 0)]) rfl ?_
    have l0 := loop zr 0 (by omega) pl (hpl1 (by omega))
    rw [zf_0] at l0
    exact l0
  · skip
    refine qv_aload_n C rfl dq_Tru_bringDigit_10 ?_
    refine qv_get C fl_Tru_12 0 rfl rfl dq_Tru_bringDigit_11 ?_
    refine qv_aload_n C rfl dq_Tru_bringDigit_14 ?_
    refine qv_get C fl_Tru_88 0 rfl rfl dq_Tru_bringDigit_15 ?_
    refine qv_put C (ws' := [oc x 3 [.ref k, vi (b2 mi), vi ((zr : Nat) : Int), vi pt, .ref g, .ref w, .ref t, .ref l, .ref hi], oc k 0 [.ref ka, vi ((len : Nat) : Int), vi pt], ai cI ka 800 f]) fl_Tru_106 fs_0_2 1 rfl rfl rfl (Nat.le_of_ble_eq_true rfl) rfl dq_Tru_bringDigit_18 ?_
    refine qv_iconst C dq_Tru_bringDigit_21 ?_
    refine qv_istore_n C (lv' := [(2, vi 0), (0, .ref x), (1, vi ((d : Nat) : Int))]) (by decide) rfl dq_Tru_bringDigit_22 ?_
    refine qv_lv [1, 2, 0] (lv' := [(0, .ref x), (1, vi ((d : Nat) : Int)), (2, vi 0)]) rfl ?_
    have l0 := loop zr 0 (by omega) pt (hpl0 (by omega))
    rw [zf_0] at l0
    exact l0

theorem c_Tru_roundToDigits (cI cJ : ClassId) (x k g w t l hi : Nat) (mi : Bool) (zr : Nat) (pt : Int) (ka len : Nat) (pl : Int) (f : Nat → Nat) (n : Nat) (hl : len ≤ 800) (hf : ∀ i, f i ≤ 9) (hn : n ≤ 800) : MtV cI cJ ky_Tru_roundToDigits kb_Tru_roundToDigits 2 rm_Tru_roundToDigits Xt [.ref x, vi ((n : Nat) : Int)] [oc x 3 [.ref k, vi (b2 mi), vi ((zr : Nat) : Int), vi pt, .ref g, .ref w, .ref t, .ref l, .ref hi], oc k 0 [.ref ka, vi ((len : Nat) : Int), vi pl], ai cI ka 800 f] (fun u => u = xo x k g w t l hi mi 0 0 :: dw cI k ka (cL f len (rz n)) (cP f len (rz n) pl) (cF f len (rz n))) := by
  refine MtV_in (by decide) (Nat.le_of_ble_eq_true rfl) (fun K C hR hX hN => ?_)
  show V K 2 [oc x 3 [.ref k, vi (b2 mi), vi ((zr : Nat) : Int), vi pt, .ref g, .ref w, .ref t, .ref l, .ref hi], oc k 0 [.ref ka, vi ((len : Nat) : Int), vi pl], ai cI ka 800 f] 0 0 0 [(0, .ref x), (1, vi ((n : Nat) : Int))] []
  refine qv_iload_n C rfl dq_Tru_roundToDigits_0 ?_
  refine qv_ifne C (by omega) (tgt := 14) (by decide) dq_Tru_roundToDigits_1 (fun h1 => ?_) (fun h1 => ?_)
  · skip
    refine qv_aload_n C rfl dq_Tru_roundToDigits_14 ?_
    refine qv_get C fl_Tru_12 0 rfl rfl dq_Tru_roundToDigits_15 ?_
    refine qv_iload_n C rfl dq_Tru_roundToDigits_18 ?_
    refine qc_vV (wr := [oc x 3 [.ref k, vi (b2 mi), vi ((zr : Nat) : Int), vi pt, .ref g, .ref w, .ref t, .ref l, .ref hi]]) (st := []) C cl_Tru_109 cd_Dec_cutBehind (c_Dec_cutBehind cI cJ k ka len pl f (n : Int) hl hf (by omega)) (Xok_t K) Xbl_t [1, 2] [0] rfl rfl (by decide) (by decide) (by decide) 0 rfl rfl rfl rfl rfl (Nat.le_of_ble_eq_true rfl) (by decide) (by decide) dq_Tru_roundToDigits_19 (fun u hu => ?_)
    obtain rfl := hu
    show V K 2 [oc x 3 [.ref k, vi (b2 mi), vi ((zr : Nat) : Int), vi pt, .ref g, .ref w, .ref t, .ref l, .ref hi], oc k 0 [.ref ka, vi ((cL f len ((n : Nat) : Int) : Nat) : Int), vi (cP f len ((n : Nat) : Int) pl)], ai cI ka 800 (cF f len ((n : Nat) : Int))] 0 0 22 [(0, .ref x), (1, vi ((n : Nat) : Int))] []
    refine qv_aload_n C rfl dq_Tru_roundToDigits_22 ?_
    refine qc_vV (wr := [oc k 0 [.ref ka, vi ((cL f len ((n : Nat) : Int) : Nat) : Int), vi (cP f len ((n : Nat) : Int) pl)], ai cI ka 800 (cF f len ((n : Nat) : Int))]) (st := []) C cl_Tru_66 cd_Tru_forgetWhatCame (c_Tru_forgetWhatCame cI cJ x k g w t l hi mi zr pt) (Xok_t K) Xbl_t [0] [1, 2] rfl rfl (by decide) (by decide) (by decide) 0 rfl rfl rfl rfl rfl (Nat.le_of_ble_eq_true rfl) (by decide) (by decide) dq_Tru_roundToDigits_23 (fun u hu => ?_)
    obtain rfl := hu
    show V K 2 [oc k 0 [.ref ka, vi ((cL f len ((n : Nat) : Int) : Nat) : Int), vi (cP f len ((n : Nat) : Int) pl)], ai cI ka 800 (cF f len ((n : Nat) : Int)), oc x 3 [.ref k, vi (b2 mi), vi 0, vi 0, .ref g, .ref w, .ref t, .ref l, .ref hi]] 0 0 26 [(0, .ref x), (1, vi ((n : Nat) : Int))] []
    refine qv_ws [2, 0, 1] (ws' := [oc x 3 [.ref k, vi (b2 mi), vi 0, vi 0, .ref g, .ref w, .ref t, .ref l, .ref hi], oc k 0 [.ref ka, vi ((cL f len ((n : Nat) : Int) : Nat) : Int), vi (cP f len ((n : Nat) : Int) pl)], ai cI ka 800 (cF f len ((n : Nat) : Int))]) (by decide) rfl ?_
    refine qv_vret C hR ?_ dq_Tru_roundToDigits_26 (by decide) (by decide)
    show _ = _ :: dw _ _ _ _ _ _
    rw [rz_s (by omega)]; rfl
  · skip
    refine qv_aload_n C rfl dq_Tru_roundToDigits_4 ?_
    refine qv_get C fl_Tru_12 0 rfl rfl dq_Tru_roundToDigits_5 ?_
    refine qc_vV (wr := [oc x 3 [.ref k, vi (b2 mi), vi ((zr : Nat) : Int), vi pt, .ref g, .ref w, .ref t, .ref l, .ref hi]]) (st := []) C cl_Tru_96 cd_Dec_beZero (c_Dec_beZero cI cJ k ka len pl f) (Xok_t K) Xbl_t [1, 2] [0] rfl rfl (by decide) (by decide) (by decide) 0 rfl rfl rfl rfl rfl (Nat.le_of_ble_eq_true rfl) (by decide) (by decide) dq_Tru_roundToDigits_8 (fun u hu => ?_)
    obtain rfl := hu
    show V K 2 [oc x 3 [.ref k, vi (b2 mi), vi ((zr : Nat) : Int), vi pt, .ref g, .ref w, .ref t, .ref l, .ref hi], oc k 0 [.ref ka, vi 0, vi 0], ai cI ka 800 f] 0 0 11 [(0, .ref x), (1, vi ((n : Nat) : Int))] []
    refine qv_goto C (tgt := 22) (by decide) dq_Tru_roundToDigits_11 ?_
    refine qv_aload_n C rfl dq_Tru_roundToDigits_22 ?_
    refine qc_vV (wr := [oc k 0 [.ref ka, vi 0, vi 0], ai cI ka 800 f]) (st := []) C cl_Tru_66 cd_Tru_forgetWhatCame (c_Tru_forgetWhatCame cI cJ x k g w t l hi mi zr pt) (Xok_t K) Xbl_t [0] [1, 2] rfl rfl (by decide) (by decide) (by decide) 0 rfl rfl rfl rfl rfl (Nat.le_of_ble_eq_true rfl) (by decide) (by decide) dq_Tru_roundToDigits_23 (fun u hu => ?_)
    obtain rfl := hu
    show V K 2 [oc k 0 [.ref ka, vi 0, vi 0], ai cI ka 800 f, oc x 3 [.ref k, vi (b2 mi), vi 0, vi 0, .ref g, .ref w, .ref t, .ref l, .ref hi]] 0 0 26 [(0, .ref x), (1, vi ((n : Nat) : Int))] []
    refine qv_ws [2, 0, 1] (ws' := [oc x 3 [.ref k, vi (b2 mi), vi 0, vi 0, .ref g, .ref w, .ref t, .ref l, .ref hi], oc k 0 [.ref ka, vi 0, vi 0], ai cI ka 800 f]) (by decide) rfl ?_
    refine qv_vret C hR ?_ dq_Tru_roundToDigits_26 (by decide) (by decide)
    have en : n = 0 := by omega
    subst en
    show _ = _ :: dw _ _ _ _ _ _
    rw [rz_0, cL_neg (by omega), cP_neg (by omega), cF_neg (by omega)]; rfl
end
section
theorem c_JInt_numberOfLeadingZeros (cI cJ : ClassId) (x : Nat) (h0 : 0 < x) (hx : x < 4294967296) : MtI cI cJ ky_JInt_numberOfLeadingZeros kb_JInt_numberOfLeadingZeros 2 .int rm_JInt_numberOfLeadingZeros Xt [vi ((x : Nat) : Int)] [] (fun z u => ∃ n : Nat, z = ((n : Nat) : Int) ∧ n ≤ 31 ∧ 2147483648 ≤ x * 2 ^ n ∧ x * 2 ^ n < 4294967296 ∧ u = []) := by
  refine MtI_in (by decide) (Nat.le_of_ble_eq_true rfl) (fun K C hR hX hN => ?_)
  show V K 2 [] 0 0 0 [(0, vi ((x : Nat) : Int))] []
  by_cases hb : x < 2147483648
  · skip
    refine qv_iload_n C rfl dq_JInt_numberOfLeadingZeros_0 ?_
    refine qv_ifgt C (by omega) (tgt := 15) (by decide) dq_JInt_numberOfLeadingZeros_1 (fun h1 => ?_) (fun h1 => ?_)
    · skip
      refine qv_bipush C (by decide) dq_JInt_numberOfLeadingZeros_15 ?_
      refine qv_istore_n C (lv' := [(1, vi 31), (0, vi ((x : Nat) : Int))]) (by decide) rfl dq_JInt_numberOfLeadingZeros_17 ?_
      refine qv_iload_n C rfl dq_JInt_numberOfLeadingZeros_18 ?_
      refine qv_ldcw C (z := 65536) wk_JInt_264 dq_JInt_numberOfLeadingZeros_19 ?_
      refine qv_iclt C (by omega) (by omega) (tgt := 33) (by decide) dq_JInt_numberOfLeadingZeros_22 (fun h22 => ?_) (fun h22 => ?_)
      · skip
        refine qv_iload_n C rfl dq_JInt_numberOfLeadingZeros_33 ?_
        refine qv_sipush C (by decide) dq_JInt_numberOfLeadingZeros_34 ?_
        refine qv_iclt C (by omega) (by omega) (tgt := 48) (by decide) dq_JInt_numberOfLeadingZeros_37 (fun h37 => ?_) (fun h37 => ?_)
        · skip
          refine qv_iload_n C rfl dq_JInt_numberOfLeadingZeros_48 ?_
          refine qv_bipush C (by decide) dq_JInt_numberOfLeadingZeros_49 ?_
          refine qv_iclt C (by omega) (by omega) (tgt := 61) (by decide) dq_JInt_numberOfLeadingZeros_51 (fun h51 => ?_) (fun h51 => ?_)
          · skip
            refine qv_iload_n C rfl dq_JInt_numberOfLeadingZeros_61 ?_
            refine qv_iconst C dq_JInt_numberOfLeadingZeros_62 ?_
            refine qv_iclt C (by omega) (by omega) (tgt := 73) (by decide) dq_JInt_numberOfLeadingZeros_63 (fun h63 => ?_) (fun h63 => ?_)
            · skip
              refine qv_iload_n C rfl dq_JInt_numberOfLeadingZeros_73 ?_
              refine qv_iload_n C rfl dq_JInt_numberOfLeadingZeros_74 ?_
              refine qv_iconst C dq_JInt_numberOfLeadingZeros_75 ?_
              refine qv_iushr C x 1 (by omega) (by omega) (by omega) (by omega) dq_JInt_numberOfLeadingZeros_76 ?_
              refine qv_isub C (r := (((31 - x / 2 ^ 1) : Nat) : Int)) (by omega) dq_JInt_numberOfLeadingZeros_77 ?_
              refine qv_iret C hR ?_ dq_JInt_numberOfLeadingZeros_78 (by decide) (by decide)
              by_cases q : x / 1 < 2
              · exact ⟨31, by omega, by omega, by omega, by omega, rfl⟩
              · exact ⟨30, by omega, by omega, by omega, by omega, rfl⟩
            · skip
              refine qv_iinc C (j := 0) (lv' := [(1, vi 29), (0, vi ((x : Nat) : Int))]) (by omega) rfl (by decide) rfl dq_JInt_numberOfLeadingZeros_66 ?_
              refine qv_iload_n C rfl dq_JInt_numberOfLeadingZeros_69 ?_
              refine qv_iconst C dq_JInt_numberOfLeadingZeros_70 ?_
              refine qv_iushr C x 2 (by omega) (by omega) (by omega) (by omega) dq_JInt_numberOfLeadingZeros_71 ?_
              refine qv_istore_n C (lv' := [(0, vi ((x / 2 ^ 2 : Nat) : Int)), (1, vi 29)]) (by decide) rfl dq_JInt_numberOfLeadingZeros_72 ?_
              refine qv_iload_n C rfl dq_JInt_numberOfLeadingZeros_73 ?_
              refine qv_iload_n C rfl dq_JInt_numberOfLeadingZeros_74 ?_
              refine qv_iconst C dq_JInt_numberOfLeadingZeros_75 ?_
              refine qv_iushr C (x / 2 ^ 2) 1 (by omega) (by omega) (by omega) (by omega) dq_JInt_numberOfLeadingZeros_76 ?_
              refine qv_isub C (r := (((29 - (x / 2 ^ 2) / 2 ^ 1) : Nat) : Int)) (by omega) dq_JInt_numberOfLeadingZeros_77 ?_
              refine qv_iret C hR ?_ dq_JInt_numberOfLeadingZeros_78 (by decide) (by decide)
              by_cases q : x / 4 < 2
              · exact ⟨29, by omega, by omega, by omega, by omega, rfl⟩
              · exact ⟨28, by omega, by omega, by omega, by omega, rfl⟩
          · skip
            refine qv_iinc C (j := 0) (lv' := [(1, vi 27), (0, vi ((x : Nat) : Int))]) (by omega) rfl (by decide) rfl dq_JInt_numberOfLeadingZeros_54 ?_
            refine qv_iload_n C rfl dq_JInt_numberOfLeadingZeros_57 ?_
            refine qv_iconst C dq_JInt_numberOfLeadingZeros_58 ?_
            refine qv_iushr C x 4 (by omega) (by omega) (by omega) (by omega) dq_JInt_numberOfLeadingZeros_59 ?_
            refine qv_istore_n C (lv' := [(0, vi ((x / 2 ^ 4 : Nat) : Int)), (1, vi 27)]) (by decide) rfl dq_JInt_numberOfLeadingZeros_60 ?_
            refine qv_iload_n C rfl dq_JInt_numberOfLeadingZeros_61 ?_
            refine qv_iconst C dq_JInt_numberOfLeadingZeros_62 ?_
            refine qv_iclt C (by omega) (by omega) (tgt := 73) (by decide) dq_JInt_numberOfLeadingZeros_63 (fun h63 => ?_) (fun h63 => ?_)
            · skip
              refine qv_iload_n C rfl dq_JInt_numberOfLeadingZeros_73 ?_
              refine qv_iload_n C rfl dq_JInt_numberOfLeadingZeros_74 ?_
              refine qv_iconst C dq_JInt_numberOfLeadingZeros_75 ?_
              refine qv_iushr C (x / 2 ^ 4) 1 (by omega) (by omega) (by omega) (by omega) dq_JInt_numberOfLeadingZeros_76 ?_
              refine qv_isub C (r := (((27 - (x / 2 ^ 4) / 2 ^ 1) : Nat) : Int)) (by omega) dq_JInt_numberOfLeadingZeros_77 ?_
              refine qv_iret C hR ?_ dq_JInt_numberOfLeadingZeros_78 (by decide) (by decide)
              by_cases q : x / 16 < 2
              · exact ⟨27, by omega, by omega, by omega, by omega, rfl⟩
              · exact ⟨26, by omega, by omega, by omega, by omega, rfl⟩
            · skip
              refine qv_iinc C (j := 1) (lv' := [(1, vi 25), (0, vi ((x / 2 ^ 4 : Nat) : Int))]) (by omega) rfl (by decide) rfl dq_JInt_numberOfLeadingZeros_66 ?_
              refine qv_iload_n C rfl dq_JInt_numberOfLeadingZeros_69 ?_
              refine qv_iconst C dq_JInt_numberOfLeadingZeros_70 ?_
              refine qv_iushr C (x / 2 ^ 4) 2 (by omega) (by omega) (by omega) (by omega) dq_JInt_numberOfLeadingZeros_71 ?_
              refine qv_istore_n C (lv' := [(0, vi (((x / 2 ^ 4) / 2 ^ 2 : Nat) : Int)), (1, vi 25)]) (by decide) rfl dq_JInt_numberOfLeadingZeros_72 ?_
              refine qv_iload_n C rfl dq_JInt_numberOfLeadingZeros_73 ?_
              refine qv_iload_n C rfl dq_JInt_numberOfLeadingZeros_74 ?_
              refine qv_iconst C dq_JInt_numberOfLeadingZeros_75 ?_
              refine qv_iushr C ((x / 2 ^ 4) / 2 ^ 2) 1 (by omega) (by omega) (by omega) (by omega) dq_JInt_numberOfLeadingZeros_76 ?_
              refine qv_isub C (r := (((25 - ((x / 2 ^ 4) / 2 ^ 2) / 2 ^ 1) : Nat) : Int)) (by omega) dq_JInt_numberOfLeadingZeros_77 ?_
              refine qv_iret C hR ?_ dq_JInt_numberOfLeadingZeros_78 (by decide) (by decide)
              by_cases q : x / 64 < 2
              · exact ⟨25, by omega, by omega, by omega, by omega, rfl⟩
              · exact ⟨24, by omega, by omega, by omega, by omega, rfl⟩
        · skip
          refine qv_iinc C (j := 0) (lv' := [(1, vi 23), (0, vi ((x : Nat) : Int))]) (by omega) rfl (by decide) rfl dq_JInt_numberOfLeadingZeros_40 ?_
          refine qv_iload_n C rfl dq_JInt_numberOfLeadingZeros_43 ?_
          refine qv_bipush C (by decide) dq_JInt_numberOfLeadingZeros_44 ?_
          refine qv_iushr C x 8 (by omega) (by omega) (by omega) (by omega) dq_JInt_numberOfLeadingZeros_46 ?_
          refine qv_istore_n C (lv' := [(0, vi ((x / 2 ^ 8 : Nat) : Int)), (1, vi 23)]) (by decide) rfl dq_JInt_numberOfLeadingZeros_47 ?_
          refine qv_iload_n C rfl dq_JInt_numberOfLeadingZeros_48 ?_
          refine qv_bipush C (by decide) dq_JInt_numberOfLeadingZeros_49 ?_
          refine qv_iclt C (by omega) (by omega) (tgt := 61) (by decide) dq_JInt_numberOfLeadingZeros_51 (fun h51 => ?_) (fun h51 => ?_)
          · skip
            refine qv_iload_n C rfl dq_JInt_numberOfLeadingZeros_61 ?_
            refine qv_iconst C dq_JInt_numberOfLeadingZeros_62 ?_
            refine qv_iclt C (by omega) (by omega) (tgt := 73) (by decide) dq_JInt_numberOfLeadingZeros_63 (fun h63 => ?_) (fun h63 => ?_)
            · skip
              refine qv_iload_n C rfl dq_JInt_numberOfLeadingZeros_73 ?_
              refine qv_iload_n C rfl dq_JInt_numberOfLeadingZeros_74 ?_
              refine qv_iconst C dq_JInt_numberOfLeadingZeros_75 ?_
              refine qv_iushr C (x / 2 ^ 8) 1 (by omega) (by omega) (by omega) (by omega) dq_JInt_numberOfLeadingZeros_76 ?_
              refine qv_isub C (r := (((23 - (x / 2 ^ 8) / 2 ^ 1) : Nat) : Int)) (by omega) dq_JInt_numberOfLeadingZeros_77 ?_
              refine qv_iret C hR ?_ dq_JInt_numberOfLeadingZeros_78 (by decide) (by decide)
              by_cases q : x / 256 < 2
              · exact ⟨23, by omega, by omega, by omega, by omega, rfl⟩
              · exact ⟨22, by omega, by omega, by omega, by omega, rfl⟩
            · skip
              refine qv_iinc C (j := 1) (lv' := [(1, vi 21), (0, vi ((x / 2 ^ 8 : Nat) : Int))]) (by omega) rfl (by decide) rfl dq_JInt_numberOfLeadingZeros_66 ?_
              refine qv_iload_n C rfl dq_JInt_numberOfLeadingZeros_69 ?_
              refine qv_iconst C dq_JInt_numberOfLeadingZeros_70 ?_
              refine qv_iushr C (x / 2 ^ 8) 2 (by omega) (by omega) (by omega) (by omega) dq_JInt_numberOfLeadingZeros_71 ?_
              refine qv_istore_n C (lv' := [(0, vi (((x / 2 ^ 8) / 2 ^ 2 : Nat) : Int)), (1, vi 21)]) (by decide) rfl dq_JInt_numberOfLeadingZeros_72 ?_
              refine qv_iload_n C rfl dq_JInt_numberOfLeadingZeros_73 ?_
              refine qv_iload_n C rfl dq_JInt_numberOfLeadingZeros_74 ?_
              refine qv_iconst C dq_JInt_numberOfLeadingZeros_75 ?_
              refine qv_iushr C ((x / 2 ^ 8) / 2 ^ 2) 1 (by omega) (by omega) (by omega) (by omega) dq_JInt_numberOfLeadingZeros_76 ?_
              refine qv_isub C (r := (((21 - ((x / 2 ^ 8) / 2 ^ 2) / 2 ^ 1) : Nat) : Int)) (by omega) dq_JInt_numberOfLeadingZeros_77 ?_
              refine qv_iret C hR ?_ dq_JInt_numberOfLeadingZeros_78 (by decide) (by decide)
              by_cases q : x / 1024 < 2
              · exact ⟨21, by omega, by omega, by omega, by omega, rfl⟩
              · exact ⟨20, by omega, by omega, by omega, by omega, rfl⟩
          · skip
            refine qv_iinc C (j := 1) (lv' := [(1, vi 19), (0, vi ((x / 2 ^ 8 : Nat) : Int))]) (by omega) rfl (by decide) rfl dq_JInt_numberOfLeadingZeros_54 ?_
            refine qv_iload_n C rfl dq_JInt_numberOfLeadingZeros_57 ?_
            refine qv_iconst C dq_JInt_numberOfLeadingZeros_58 ?_
            refine qv_iushr C (x / 2 ^ 8) 4 (by omega) (by omega) (by omega) (by omega) dq_JInt_numberOfLeadingZeros_59 ?_
            refine qv_istore_n C (lv' := [(0, vi (((x / 2 ^ 8) / 2 ^ 4 : Nat) : Int)), (1, vi 19)]) (by decide) rfl dq_JInt_numberOfLeadingZeros_60 ?_
            refine qv_iload_n C rfl dq_JInt_numberOfLeadingZeros_61 ?_
            refine qv_iconst C dq_JInt_numberOfLeadingZeros_62 ?_
            refine qv_iclt C (by omega) (by omega) (tgt := 73) (by decide) dq_JInt_numberOfLeadingZeros_63 (fun h63 => ?_) (fun h63 => ?_)
            · skip
              refine qv_iload_n C rfl dq_JInt_numberOfLeadingZeros_73 ?_
              refine qv_iload_n C rfl dq_JInt_numberOfLeadingZeros_74 ?_
              refine qv_iconst C dq_JInt_numberOfLeadingZeros_75 ?_
              refine qv_iushr C ((x / 2 ^ 8) / 2 ^ 4) 1 (by omega) (by omega) (by omega) (by omega) dq_JInt_numberOfLeadingZeros_76 ?_
              refine qv_isub C (r := (((19 - ((x / 2 ^ 8) / 2 ^ 4) / 2 ^ 1) : Nat) : Int)) (by omega) dq_JInt_numberOfLeadingZeros_77 ?_
              refine qv_iret C hR ?_ dq_JInt_numberOfLeadingZeros_78 (by decide) (by decide)
              by_cases q : x / 4096 < 2
              · exact ⟨19, by omega, by omega, by omega, by omega, rfl⟩
              · exact ⟨18, by omega, by omega, by omega, by omega, rfl⟩
            · skip
              refine qv_iinc C (j := 1) (lv' := [(1, vi 17), (0, vi (((x / 2 ^ 8) / 2 ^ 4 : Nat) : Int))]) (by omega) rfl (by decide) rfl dq_JInt_numberOfLeadingZeros_66 ?_
              refine qv_iload_n C rfl dq_JInt_numberOfLeadingZeros_69 ?_
              refine qv_iconst C dq_JInt_numberOfLeadingZeros_70 ?_
              refine qv_iushr C ((x / 2 ^ 8) / 2 ^ 4) 2 (by omega) (by omega) (by omega) (by omega) dq_JInt_numberOfLeadingZeros_71 ?_
              refine qv_istore_n C (lv' := [(0, vi ((((x / 2 ^ 8) / 2 ^ 4) / 2 ^ 2 : Nat) : Int)), (1, vi 17)]) (by decide) rfl dq_JInt_numberOfLeadingZeros_72 ?_
              refine qv_iload_n C rfl dq_JInt_numberOfLeadingZeros_73 ?_
              refine qv_iload_n C rfl dq_JInt_numberOfLeadingZeros_74 ?_
              refine qv_iconst C dq_JInt_numberOfLeadingZeros_75 ?_
              refine qv_iushr C (((x / 2 ^ 8) / 2 ^ 4) / 2 ^ 2) 1 (by omega) (by omega) (by omega) (by omega) dq_JInt_numberOfLeadingZeros_76 ?_
              refine qv_isub C (r := (((17 - (((x / 2 ^ 8) / 2 ^ 4) / 2 ^ 2) / 2 ^ 1) : Nat) : Int)) (by omega) dq_JInt_numberOfLeadingZeros_77 ?_
              refine qv_iret C hR ?_ dq_JInt_numberOfLeadingZeros_78 (by decide) (by decide)
              by_cases q : x / 16384 < 2
              · exact ⟨17, by omega, by omega, by omega, by omega, rfl⟩
              · exact ⟨16, by omega, by omega, by omega, by omega, rfl⟩
      · skip
        refine qv_iinc C (j := 0) (lv' := [(1, vi 15), (0, vi ((x : Nat) : Int))]) (by omega) rfl (by decide) rfl dq_JInt_numberOfLeadingZeros_25 ?_
        refine qv_iload_n C rfl dq_JInt_numberOfLeadingZeros_28 ?_
        refine qv_bipush C (by decide) dq_JInt_numberOfLeadingZeros_29 ?_
        refine qv_iushr C x 16 (by omega) (by omega) (by omega) (by omega) dq_JInt_numberOfLeadingZeros_31 ?_
        refine qv_istore_n C (lv' := [(0, vi ((x / 2 ^ 16 : Nat) : Int)), (1, vi 15)]) (by decide) rfl dq_JInt_numberOfLeadingZeros_32 ?_
        refine qv_iload_n C rfl dq_JInt_numberOfLeadingZeros_33 ?_
        refine qv_sipush C (by decide) dq_JInt_numberOfLeadingZeros_34 ?_
        refine qv_iclt C (by omega) (by omega) (tgt := 48) (by decide) dq_JInt_numberOfLeadingZeros_37 (fun h37 => ?_) (fun h37 => ?_)
        · skip
          refine qv_iload_n C rfl dq_JInt_numberOfLeadingZeros_48 ?_
          refine qv_bipush C (by decide) dq_JInt_numberOfLeadingZeros_49 ?_
          refine qv_iclt C (by omega) (by omega) (tgt := 61) (by decide) dq_JInt_numberOfLeadingZeros_51 (fun h51 => ?_) (fun h51 => ?_)
          · skip
            refine qv_iload_n C rfl dq_JInt_numberOfLeadingZeros_61 ?_
            refine qv_iconst C dq_JInt_numberOfLeadingZeros_62 ?_
            refine qv_iclt C (by omega) (by omega) (tgt := 73) (by decide) dq_JInt_numberOfLeadingZeros_63 (fun h63 => ?_) (fun h63 => ?_)
            · skip
              refine qv_iload_n C rfl dq_JInt_numberOfLeadingZeros_73 ?_
              refine qv_iload_n C rfl dq_JInt_numberOfLeadingZeros_74 ?_
              refine qv_iconst C dq_JInt_numberOfLeadingZeros_75 ?_
              refine qv_iushr C (x / 2 ^ 16) 1 (by omega) (by omega) (by omega) (by omega) dq_JInt_numberOfLeadingZeros_76 ?_
              refine qv_isub C (r := (((15 - (x / 2 ^ 16) / 2 ^ 1) : Nat) : Int)) (by omega) dq_JInt_numberOfLeadingZeros_77 ?_
              refine qv_iret C hR ?_ dq_JInt_numberOfLeadingZeros_78 (by decide) (by decide)
              by_cases q : x / 65536 < 2
              · exact ⟨15, by omega, by omega, by omega, by omega, rfl⟩
              · exact ⟨14, by omega, by omega, by omega, by omega, rfl⟩
            · skip
              refine qv_iinc C (j := 1) (lv' := [(1, vi 13), (0, vi ((x / 2 ^ 16 : Nat) : Int))]) (by omega) rfl (by decide) rfl dq_JInt_numberOfLeadingZeros_66 ?_
              refine qv_iload_n C rfl dq_JInt_numberOfLeadingZeros_69 ?_
              refine qv_iconst C dq_JInt_numberOfLeadingZeros_70 ?_
              refine qv_iushr C (x / 2 ^ 16) 2 (by omega) (by omega) (by omega) (by omega) dq_JInt_numberOfLeadingZeros_71 ?_
              refine qv_istore_n C (lv' := [(0, vi (((x / 2 ^ 16) / 2 ^ 2 : Nat) : Int)), (1, vi 13)]) (by decide) rfl dq_JInt_numberOfLeadingZeros_72 ?_
              refine qv_iload_n C rfl dq_JInt_numberOfLeadingZeros_73 ?_
              refine qv_iload_n C rfl dq_JInt_numberOfLeadingZeros_74 ?_
              refine qv_iconst C dq_JInt_numberOfLeadingZeros_75 ?_
              refine qv_iushr C ((x / 2 ^ 16) / 2 ^ 2) 1 (by omega) (by omega) (by omega) (by omega) dq_JInt_numberOfLeadingZeros_76 ?_
              refine qv_isub C (r := (((13 - ((x / 2 ^ 16) / 2 ^ 2) / 2 ^ 1) : Nat) : Int)) (by omega) dq_JInt_numberOfLeadingZeros_77 ?_
              refine qv_iret C hR ?_ dq_JInt_numberOfLeadingZeros_78 (by decide) (by decide)
              by_cases q : x / 262144 < 2
              · exact ⟨13, by omega, by omega, by omega, by omega, rfl⟩
              · exact ⟨12, by omega, by omega, by omega, by omega, rfl⟩
          · skip
            refine qv_iinc C (j := 1) (lv' := [(1, vi 11), (0, vi ((x / 2 ^ 16 : Nat) : Int))]) (by omega) rfl (by decide) rfl dq_JInt_numberOfLeadingZeros_54 ?_
            refine qv_iload_n C rfl dq_JInt_numberOfLeadingZeros_57 ?_
            refine qv_iconst C dq_JInt_numberOfLeadingZeros_58 ?_
            refine qv_iushr C (x / 2 ^ 16) 4 (by omega) (by omega) (by omega) (by omega) dq_JInt_numberOfLeadingZeros_59 ?_
            refine qv_istore_n C (lv' := [(0, vi (((x / 2 ^ 16) / 2 ^ 4 : Nat) : Int)), (1, vi 11)]) (by decide) rfl dq_JInt_numberOfLeadingZeros_60 ?_
            refine qv_iload_n C rfl dq_JInt_numberOfLeadingZeros_61 ?_
            refine qv_iconst C dq_JInt_numberOfLeadingZeros_62 ?_
            refine qv_iclt C (by omega) (by omega) (tgt := 73) (by decide) dq_JInt_numberOfLeadingZeros_63 (fun h63 => ?_) (fun h63 => ?_)
            · skip
              refine qv_iload_n C rfl dq_JInt_numberOfLeadingZeros_73 ?_
              refine qv_iload_n C rfl dq_JInt_numberOfLeadingZeros_74 ?_
              refine qv_iconst C dq_JInt_numberOfLeadingZeros_75 ?_
              refine qv_iushr C ((x / 2 ^ 16) / 2 ^ 4) 1 (by omega) (by omega) (by omega) (by omega) dq_JInt_numberOfLeadingZeros_76 ?_
              refine qv_isub C (r := (((11 - ((x / 2 ^ 16) / 2 ^ 4) / 2 ^ 1) : Nat) : Int)) (by omega) dq_JInt_numberOfLeadingZeros_77 ?_
              refine qv_iret C hR ?_ dq_JInt_numberOfLeadingZeros_78 (by decide) (by decide)
              by_cases q : x / 1048576 < 2
              · exact ⟨11, by omega, by omega, by omega, by omega, rfl⟩
              · exact ⟨10, by omega, by omega, by omega, by omega, rfl⟩
            · skip
              refine qv_iinc C (j := 1) (lv' := [(1, vi 9), (0, vi (((x / 2 ^ 16) / 2 ^ 4 : Nat) : Int))]) (by omega) rfl (by decide) rfl dq_JInt_numberOfLeadingZeros_66 ?_
              refine qv_iload_n C rfl dq_JInt_numberOfLeadingZeros_69 ?_
              refine qv_iconst C dq_JInt_numberOfLeadingZeros_70 ?_
              refine qv_iushr C ((x / 2 ^ 16) / 2 ^ 4) 2 (by omega) (by omega) (by omega) (by omega) dq_JInt_numberOfLeadingZeros_71 ?_
              refine qv_istore_n C (lv' := [(0, vi ((((x / 2 ^ 16) / 2 ^ 4) / 2 ^ 2 : Nat) : Int)), (1, vi 9)]) (by decide) rfl dq_JInt_numberOfLeadingZeros_72 ?_
              refine qv_iload_n C rfl dq_JInt_numberOfLeadingZeros_73 ?_
              refine qv_iload_n C rfl dq_JInt_numberOfLeadingZeros_74 ?_
              refine qv_iconst C dq_JInt_numberOfLeadingZeros_75 ?_
              refine qv_iushr C (((x / 2 ^ 16) / 2 ^ 4) / 2 ^ 2) 1 (by omega) (by omega) (by omega) (by omega) dq_JInt_numberOfLeadingZeros_76 ?_
              refine qv_isub C (r := (((9 - (((x / 2 ^ 16) / 2 ^ 4) / 2 ^ 2) / 2 ^ 1) : Nat) : Int)) (by omega) dq_JInt_numberOfLeadingZeros_77 ?_
              refine qv_iret C hR ?_ dq_JInt_numberOfLeadingZeros_78 (by decide) (by decide)
              by_cases q : x / 4194304 < 2
              · exact ⟨9, by omega, by omega, by omega, by omega, rfl⟩
              · exact ⟨8, by omega, by omega, by omega, by omega, rfl⟩
        · skip
          refine qv_iinc C (j := 1) (lv' := [(1, vi 7), (0, vi ((x / 2 ^ 16 : Nat) : Int))]) (by omega) rfl (by decide) rfl dq_JInt_numberOfLeadingZeros_40 ?_
          refine qv_iload_n C rfl dq_JInt_numberOfLeadingZeros_43 ?_
          refine qv_bipush C (by decide) dq_JInt_numberOfLeadingZeros_44 ?_
          refine qv_iushr C (x / 2 ^ 16) 8 (by omega) (by omega) (by omega) (by omega) dq_JInt_numberOfLeadingZeros_46 ?_
          refine qv_istore_n C (lv' := [(0, vi (((x / 2 ^ 16) / 2 ^ 8 : Nat) : Int)), (1, vi 7)]) (by decide) rfl dq_JInt_numberOfLeadingZeros_47 ?_
          refine qv_iload_n C rfl dq_JInt_numberOfLeadingZeros_48 ?_
          refine qv_bipush C (by decide) dq_JInt_numberOfLeadingZeros_49 ?_
          refine qv_iclt C (by omega) (by omega) (tgt := 61) (by decide) dq_JInt_numberOfLeadingZeros_51 (fun h51 => ?_) (fun h51 => ?_)
          · skip
            refine qv_iload_n C rfl dq_JInt_numberOfLeadingZeros_61 ?_
            refine qv_iconst C dq_JInt_numberOfLeadingZeros_62 ?_
            refine qv_iclt C (by omega) (by omega) (tgt := 73) (by decide) dq_JInt_numberOfLeadingZeros_63 (fun h63 => ?_) (fun h63 => ?_)
            · skip
              refine qv_iload_n C rfl dq_JInt_numberOfLeadingZeros_73 ?_
              refine qv_iload_n C rfl dq_JInt_numberOfLeadingZeros_74 ?_
              refine qv_iconst C dq_JInt_numberOfLeadingZeros_75 ?_
              refine qv_iushr C ((x / 2 ^ 16) / 2 ^ 8) 1 (by omega) (by omega) (by omega) (by omega) dq_JInt_numberOfLeadingZeros_76 ?_
              refine qv_isub C (r := (((7 - ((x / 2 ^ 16) / 2 ^ 8) / 2 ^ 1) : Nat) : Int)) (by omega) dq_JInt_numberOfLeadingZeros_77 ?_
              refine qv_iret C hR ?_ dq_JInt_numberOfLeadingZeros_78 (by decide) (by decide)
              by_cases q : x / 16777216 < 2
              · exact ⟨7, by omega, by omega, by omega, by omega, rfl⟩
              · exact ⟨6, by omega, by omega, by omega, by omega, rfl⟩
            · skip
              refine qv_iinc C (j := 1) (lv' := [(1, vi 5), (0, vi (((x / 2 ^ 16) / 2 ^ 8 : Nat) : Int))]) (by omega) rfl (by decide) rfl dq_JInt_numberOfLeadingZeros_66 ?_
              refine qv_iload_n C rfl dq_JInt_numberOfLeadingZeros_69 ?_
              refine qv_iconst C dq_JInt_numberOfLeadingZeros_70 ?_
              refine qv_iushr C ((x / 2 ^ 16) / 2 ^ 8) 2 (by omega) (by omega) (by omega) (by omega) dq_JInt_numberOfLeadingZeros_71 ?_
              refine qv_istore_n C (lv' := [(0, vi ((((x / 2 ^ 16) / 2 ^ 8) / 2 ^ 2 : Nat) : Int)), (1, vi 5)]) (by decide) rfl dq_JInt_numberOfLeadingZeros_72 ?_
              refine qv_iload_n C rfl dq_JInt_numberOfLeadingZeros_73 ?_
              refine qv_iload_n C rfl dq_JInt_numberOfLeadingZeros_74 ?_
              refine qv_iconst C dq_JInt_numberOfLeadingZeros_75 ?_
              refine qv_iushr C (((x / 2 ^ 16) / 2 ^ 8) / 2 ^ 2) 1 (by omega) (by omega) (by omega) (by omega) dq_JInt_numberOfLeadingZeros_76 ?_
              refine qv_isub C (r := (((5 - (((x / 2 ^ 16) / 2 ^ 8) / 2 ^ 2) / 2 ^ 1) : Nat) : Int)) (by omega) dq_JInt_numberOfLeadingZeros_77 ?_
              refine qv_iret C hR ?_ dq_JInt_numberOfLeadingZeros_78 (by decide) (by decide)
              by_cases q : x / 67108864 < 2
              · exact ⟨5, by omega, by omega, by omega, by omega, rfl⟩
              · exact ⟨4, by omega, by omega, by omega, by omega, rfl⟩
          · skip
            refine qv_iinc C (j := 1) (lv' := [(1, vi 3), (0, vi (((x / 2 ^ 16) / 2 ^ 8 : Nat) : Int))]) (by omega) rfl (by decide) rfl dq_JInt_numberOfLeadingZeros_54 ?_
            refine qv_iload_n C rfl dq_JInt_numberOfLeadingZeros_57 ?_
            refine qv_iconst C dq_JInt_numberOfLeadingZeros_58 ?_
            refine qv_iushr C ((x / 2 ^ 16) / 2 ^ 8) 4 (by omega) (by omega) (by omega) (by omega) dq_JInt_numberOfLeadingZeros_59 ?_
            refine qv_istore_n C (lv' := [(0, vi ((((x / 2 ^ 16) / 2 ^ 8) / 2 ^ 4 : Nat) : Int)), (1, vi 3)]) (by decide) rfl dq_JInt_numberOfLeadingZeros_60 ?_
            refine qv_iload_n C rfl dq_JInt_numberOfLeadingZeros_61 ?_
            refine qv_iconst C dq_JInt_numberOfLeadingZeros_62 ?_
            refine qv_iclt C (by omega) (by omega) (tgt := 73) (by decide) dq_JInt_numberOfLeadingZeros_63 (fun h63 => ?_) (fun h63 => ?_)
            · skip
              refine qv_iload_n C rfl dq_JInt_numberOfLeadingZeros_73 ?_
              refine qv_iload_n C rfl dq_JInt_numberOfLeadingZeros_74 ?_
              refine qv_iconst C dq_JInt_numberOfLeadingZeros_75 ?_
              refine qv_iushr C (((x / 2 ^ 16) / 2 ^ 8) / 2 ^ 4) 1 (by omega) (by omega) (by omega) (by omega) dq_JInt_numberOfLeadingZeros_76 ?_
              refine qv_isub C (r := (((3 - (((x / 2 ^ 16) / 2 ^ 8) / 2 ^ 4) / 2 ^ 1) : Nat) : Int)) (by omega) dq_JInt_numberOfLeadingZeros_77 ?_
              refine qv_iret C hR ?_ dq_JInt_numberOfLeadingZeros_78 (by decide) (by decide)
              by_cases q : x / 268435456 < 2
              · exact ⟨3, by omega, by omega, by omega, by omega, rfl⟩
              · exact ⟨2, by omega, by omega, by omega, by omega, rfl⟩
            · skip
              refine qv_iinc C (j := 1) (lv' := [(1, vi 1), (0, vi ((((x / 2 ^ 16) / 2 ^ 8) / 2 ^ 4 : Nat) : Int))]) (by omega) rfl (by decide) rfl dq_JInt_numberOfLeadingZeros_66 ?_
              refine qv_iload_n C rfl dq_JInt_numberOfLeadingZeros_69 ?_
              refine qv_iconst C dq_JInt_numberOfLeadingZeros_70 ?_
              refine qv_iushr C (((x / 2 ^ 16) / 2 ^ 8) / 2 ^ 4) 2 (by omega) (by omega) (by omega) (by omega) dq_JInt_numberOfLeadingZeros_71 ?_
              refine qv_istore_n C (lv' := [(0, vi (((((x / 2 ^ 16) / 2 ^ 8) / 2 ^ 4) / 2 ^ 2 : Nat) : Int)), (1, vi 1)]) (by decide) rfl dq_JInt_numberOfLeadingZeros_72 ?_
              refine qv_iload_n C rfl dq_JInt_numberOfLeadingZeros_73 ?_
              refine qv_iload_n C rfl dq_JInt_numberOfLeadingZeros_74 ?_
              refine qv_iconst C dq_JInt_numberOfLeadingZeros_75 ?_
              refine qv_iushr C ((((x / 2 ^ 16) / 2 ^ 8) / 2 ^ 4) / 2 ^ 2) 1 (by omega) (by omega) (by omega) (by omega) dq_JInt_numberOfLeadingZeros_76 ?_
              refine qv_isub C (r := (((1 - ((((x / 2 ^ 16) / 2 ^ 8) / 2 ^ 4) / 2 ^ 2) / 2 ^ 1) : Nat) : Int)) (by omega) dq_JInt_numberOfLeadingZeros_77 ?_
              refine qv_iret C hR ?_ dq_JInt_numberOfLeadingZeros_78 (by decide) (by decide)
              by_cases q : x / 1073741824 < 2
              · exact ⟨1, by omega, by omega, by omega, by omega, rfl⟩
              · exact ⟨0, by omega, by omega, by omega, by omega, rfl⟩
    · exfalso; omega
  · have e : vi ((x : Nat) : Int) = vi (((x : Nat) : Int) - 4294967296) := congrArg Value.int (zi_wraps _).symm
    rw [e]
    refine qv_iload_n C rfl dq_JInt_numberOfLeadingZeros_0 ?_
    refine qv_ifgt C (by omega) (tgt := 15) (by decide) dq_JInt_numberOfLeadingZeros_1 (fun h1 => ?_) (fun h1 => ?_)
    · exfalso; omega
    · skip
      refine qv_iload_n C rfl dq_JInt_numberOfLeadingZeros_4 ?_
      refine qv_ifne C (by omega) (tgt := 13) (by decide) dq_JInt_numberOfLeadingZeros_5 (fun h5 => ?_) (fun h5 => ?_)
      · skip
        refine qv_iconst C dq_JInt_numberOfLeadingZeros_13 ?_
        refine qv_iret C hR ?_ dq_JInt_numberOfLeadingZeros_14 (by decide) (by decide)
        exact ⟨0, rfl, by omega, by omega, by omega, rfl⟩
      · exfalso; omega

theorem c_JLon_numberOfLeadingZeros (cI cJ : ClassId) (x : Nat) (h0 : 0 < x) (hx : x < 4294967296) : MtI cI cJ ky_JLon_numberOfLeadingZeros kb_JLon_numberOfLeadingZeros 3 .int rm_JLon_numberOfLeadingZeros Xt [vj ((x : Nat) : Int)] [] (fun z u => ∃ n : Nat, z = ((32 + n : Nat) : Int) ∧ n ≤ 31 ∧ 2147483648 ≤ x * 2 ^ n ∧ x * 2 ^ n < 4294967296 ∧ u = []) := by
  refine MtI_in (by decide) (Nat.le_of_ble_eq_true rfl) (fun K C hR hX hN => ?_)
  show V K 3 [] 0 0 0 [(0, vj ((x : Nat) : Int))] []
  refine qv_lload_n C rfl dq_JLon_numberOfLeadingZeros_0 ?_
  refine qv_bipush C (by decide) dq_JLon_numberOfLeadingZeros_1 ?_
  refine qv_lushr C x 32 (by omega) (by omega) (by omega) (by omega) dq_JLon_numberOfLeadingZeros_3 ?_
  refine qv_l2i C dq_JLon_numberOfLeadingZeros_4 ?_
  refine qv_istore_n C (lv' := [(2, vi ((x / 2 ^ 32 : Nat) : Int)), (0, vj ((x : Nat) : Int))]) (by decide) rfl dq_JLon_numberOfLeadingZeros_5 ?_
  refine qv_iload_n C rfl dq_JLon_numberOfLeadingZeros_6 ?_
  refine qv_ifne C (by omega) (tgt := 21) (by decide) dq_JLon_numberOfLeadingZeros_7 (fun h7 => ?_) (fun h7 => ?_)
  · exfalso; omega
  · skip
    refine qv_bipush C (by decide) dq_JLon_numberOfLeadingZeros_10 ?_
    refine qv_lload_n C rfl dq_JLon_numberOfLeadingZeros_12 ?_
    refine qv_l2i C dq_JLon_numberOfLeadingZeros_13 ?_
    refine qc_sI (wr := []) (st := [vi 32]) C cl_JLon_308 cd_JInt_numberOfLeadingZeros (c_JInt_numberOfLeadingZeros cI cJ x h0 hx) (Xok_t K) Xbl_t [] [] rfl rfl (by decide) (by decide) (by decide) rfl rfl (Nat.le_of_ble_eq_true rfl) (by decide) (by decide) dq_JLon_numberOfLeadingZeros_14 (fun z u hu => ?_)
    obtain ⟨n, rfl, hn1, hn2, hn3, rfl⟩ := hu
    show V K 3 [] 0 0 17 [(2, vi ((x / 2 ^ 32 : Nat) : Int)), (0, vj ((x : Nat) : Int))] [vi ((n : Nat) : Int), vi 32]
    refine qv_iadd C (r := (((32 + n) : Nat) : Int)) (by omega) dq_JLon_numberOfLeadingZeros_17 ?_
    refine qv_goto C (tgt := 25) (by decide) dq_JLon_numberOfLeadingZeros_18 ?_
    refine qv_iret C hR ?_ dq_JLon_numberOfLeadingZeros_25 (by decide) (by decide)
    exact ⟨n, rfl, hn1, hn2, hn3, rfl⟩

theorem c_Wrd_firstThatIsNotZero (cI cJ : ClassId) (w wa : Nat) (hm : Bool) (W : Nat → Nat) (lim : Nat) (hW : ∀ i, W i < 4294967296) (hl : lim ≤ 70) : MtI cI cJ ky_Wrd_firstThatIsNotZero kb_Wrd_firstThatIsNotZero 3 .int rm_Wrd_firstThatIsNotZero Xt [.ref w, vi ((lim : Nat) : Int)] [oc w 2 [.ref wa, vi (b2 hm)], aj cJ wa 70 W] (fun z u => ∃ i : Nat, z = ((i : Nat) : Int) ∧ Wf W lim i ∧ u = ww cJ w wa hm W) := by
  refine MtI_in (by decide) (Nat.le_of_ble_eq_true rfl) (fun K C hR hX hN => ?_)
  show V K 3 [oc w 2 [.ref wa, vi (b2 hm)], aj cJ wa 70 W] 0 0 0 [(0, .ref w), (1, vi ((lim : Nat) : Int))] []
  have loop : ∀ n i, i + n = lim → (∀ j, j < i → W j = 0) → V K 3 [oc w 2 [.ref wa, vi (b2 hm)], aj cJ wa 70 W] 0 0 2 [(0, .ref w), (1, vi ((lim : Nat) : Int)), (2, vi ((i : Nat) : Int))] [] := by
    intro n
    induction n with
    | zero =>
      intro i hin hz
      refine qv_iload_n C rfl dq_Wrd_firstThatIsNotZero_2 ?_
      refine qv_iload_n C rfl dq_Wrd_firstThatIsNotZero_3 ?_
      refine qv_icge C (by omega) (by omega) (tgt := 24) (by decide) dq_Wrd_firstThatIsNotZero_4 (fun h4 => ?_) (fun h4 => ?_)
      · skip
        refine qv_iload_n C rfl dq_Wrd_firstThatIsNotZero_24 ?_
        refine qv_iret C hR ?_ dq_Wrd_firstThatIsNotZero_25 (by decide) (by decide)
        exact ⟨i, rfl, ⟨by omega, hz, fun q => by omega⟩, rfl⟩
      · exfalso; omega
    | succ n ih =>
      intro i hin hz
      have h9 := hW i
      refine qv_iload_n C rfl dq_Wrd_firstThatIsNotZero_2 ?_
      refine qv_iload_n C rfl dq_Wrd_firstThatIsNotZero_3 ?_
      refine qv_icge C (by omega) (by omega) (tgt := 24) (by decide) dq_Wrd_firstThatIsNotZero_4 (fun h4 => ?_) (fun h4 => ?_)
      · exfalso; omega
      · skip
        refine qv_aload_n C rfl dq_Wrd_firstThatIsNotZero_7 ?_
        refine qv_get C fl_Wrd_11 0 rfl rfl dq_Wrd_firstThatIsNotZero_8 ?_
        refine qv_iload_n C rfl dq_Wrd_firstThatIsNotZero_11 ?_
        refine qv_lald C 1 i rfl (by omega) (by omega) (by omega) dq_Wrd_firstThatIsNotZero_12 ?_
        refine qv_lconst C (z := 0) (by decide) dq_Wrd_firstThatIsNotZero_13 ?_
        refine qv_lcne C (by omega) (by omega) dq_Wrd_firstThatIsNotZero_14 (tgt := 24) (by decide) dq_Wrd_firstThatIsNotZero_15 (fun h14 => ?_) (fun h14 => ?_)
        · skip
          refine qv_iload_n C rfl dq_Wrd_firstThatIsNotZero_24 ?_
          refine qv_iret C hR ?_ dq_Wrd_firstThatIsNotZero_25 (by decide) (by decide)
          exact ⟨i, rfl, ⟨by omega, hz, fun q => by omega⟩, rfl⟩
        · skip
          refine qv_iinc C (j := 2) (lv' := [(2, vi (((i + 1) : Nat) : Int)), (0, .ref w), (1, vi ((lim : Nat) : Int))]) (by omega) rfl (by decide) rfl dq_Wrd_firstThatIsNotZero_18 ?_
          refine qv_goto C (tgt := 2) (by decide) dq_Wrd_firstThatIsNotZero_21 ?_
          refine qv_lv [1, 2, 0] (lv' := [(0, .ref w), (1, vi ((lim : Nat) : Int)), (2, vi (((i + 1) : Nat) : Int))]) rfl ?_
          exact ih (i + 1) (by omega) (fun j hj => by
            by_cases q : j = i
            · rw [q]; omega
            · exact hz j (by omega))
  refine qv_iconst C dq_Wrd_firstThatIsNotZero_0 ?_
  refine qv_istore_n C (lv' := [(2, vi 0), (0, .ref w), (1, vi ((lim : Nat) : Int))]) (by decide) rfl dq_Wrd_firstThatIsNotZero_1 ?_
  refine qv_lv [1, 2, 0] (lv' := [(0, .ref w), (1, vi ((lim : Nat) : Int)), (2, vi 0)]) rfl ?_
  exact loop lim 0 (by omega) (fun j hj => by omega)

theorem c_Wrd_isMoreFrom (cI cJ : ClassId) (w wa : Nat) (hm : Bool) (W : Nat → Nat) (st : Nat) (hW : ∀ i, W i < 4294967296) (hl : st ≤ 70) : MtI cI cJ ky_Wrd_isMoreFrom kb_Wrd_isMoreFrom 4 .boolean rm_Wrd_isMoreFrom Xt [.ref w, vi ((st : Nat) : Int)] [oc w 2 [.ref wa, vi (b2 hm)], aj cJ wa 70 W] (fun z u => ∃ mo : Bool, z = b2 mo ∧ (mo = true ↔ hm = true ∨ ∃ j, st ≤ j ∧ j < 67 ∧ W j ≠ 0) ∧ u = ww cJ w wa hm W) := by
  refine MtI_in (by decide) (Nat.le_of_ble_eq_true rfl) (fun K C hR hX hN => ?_)
  show V K 4 [oc w 2 [.ref wa, vi (b2 hm)], aj cJ wa 70 W] 0 0 0 [(0, .ref w), (1, vi ((st : Nat) : Int))] []
  have loop : ∀ n i (mo : Bool), i + n = max st 67 → st ≤ i → (mo = true ↔ hm = true ∨ ∃ j, st ≤ j ∧ j < i ∧ W j ≠ 0) → V K 4 [oc w 2 [.ref wa, vi (b2 hm)], aj cJ wa 70 W] 0 0 7 [(0, .ref w), (1, vi ((st : Nat) : Int)), (2, vi (b2 mo)), (3, vi ((i : Nat) : Int))] [] := by
    intro n
    induction n with
    | zero =>
      intro i mo hin hsi hmo
      refine qv_iload_n C rfl dq_Wrd_isMoreFrom_7 ?_
      refine qv_bipush C (by decide) dq_Wrd_isMoreFrom_8 ?_
      refine qv_icge C (by omega) (by omega) (tgt := 40) (by decide) dq_Wrd_isMoreFrom_10 (fun h10 => ?_) (fun h10 => ?_)
      · skip
        refine qv_iload_n C rfl dq_Wrd_isMoreFrom_40 ?_
        refine qv_zret (b := mo) C hR ?_ dq_Wrd_isMoreFrom_41 (by decide) (by decide)
        refine ⟨mo, rfl, ⟨fun _ => ?_, fun q => hmo.mpr (q.imp id (fun ⟨j, a, b, c⟩ => ⟨j, a, by omega, c⟩))⟩, rfl⟩
        have q := hmo.mp (by assumption)
        rcases q with q | ⟨j, a, b, c⟩
        · exact Or.inl q
        · exact Or.inr ⟨j, a, by omega, c⟩
      · exfalso; omega
    | succ n ih =>
      intro i mo hin hsi hmo
      have h9 := hW i
      refine qv_iload_n C rfl dq_Wrd_isMoreFrom_7 ?_
      refine qv_bipush C (by decide) dq_Wrd_isMoreFrom_8 ?_
      refine qv_icge C (by omega) (by omega) (tgt := 40) (by decide) dq_Wrd_isMoreFrom_10 (fun h10 => ?_) (fun h10 => ?_)
      · exfalso; omega
      · skip
        refine qv_iload_n C rfl dq_Wrd_isMoreFrom_13 ?_
        refine qv_ifne C (rb_b2 mo) (tgt := 40) (by decide) dq_Wrd_isMoreFrom_14 (fun h14 => ?_) (fun h14 => ?_)
        · skip
          refine qv_iload_n C rfl dq_Wrd_isMoreFrom_40 ?_
          refine qv_zret (b := mo) C hR ?_ dq_Wrd_isMoreFrom_41 (by decide) (by decide)
          have em := b2_t h14
          refine ⟨mo, rfl, ⟨fun _ => ?_, fun _ => em⟩, rfl⟩
          rcases hmo.mp em with q | ⟨j, a, b, c⟩
          · exact Or.inl q
          · exact Or.inr ⟨j, a, by omega, c⟩
        · skip
          refine qv_aload_n C rfl dq_Wrd_isMoreFrom_17 ?_
          refine qv_get C fl_Wrd_11 0 rfl rfl dq_Wrd_isMoreFrom_18 ?_
          refine qv_iload_n C rfl dq_Wrd_isMoreFrom_21 ?_
          refine qv_lald C 1 i rfl (by omega) (by omega) (by omega) dq_Wrd_isMoreFrom_22 ?_
          refine qv_lconst C (z := 0) (by decide) dq_Wrd_isMoreFrom_23 ?_
          refine qv_lceq C (by omega) (by omega) dq_Wrd_isMoreFrom_24 (tgt := 32) (by decide) dq_Wrd_isMoreFrom_25 (fun h24 => ?_) (fun h24 => ?_)
          · skip
            refine qv_iconst C dq_Wrd_isMoreFrom_32 ?_
            refine qv_istore_n C (lv' := [(2, vi 0), (0, .ref w), (1, vi ((st : Nat) : Int)), (3, vi ((i : Nat) : Int))]) (by decide) rfl dq_Wrd_isMoreFrom_33 ?_
            refine qv_iinc C (j := 3) (lv' := [(3, vi (((i + 1) : Nat) : Int)), (2, vi 0), (0, .ref w), (1, vi ((st : Nat) : Int))]) (by omega) rfl (by decide) rfl dq_Wrd_isMoreFrom_34 ?_
            refine qv_goto C (tgt := 7) (by decide) dq_Wrd_isMoreFrom_37 ?_
            refine qv_lv [2, 3, 1, 0] (lv' := [(0, .ref w), (1, vi ((st : Nat) : Int)), (2, vi 0), (3, vi (((i + 1) : Nat) : Int))]) rfl ?_
            have em := b2_f h14
            have hno : ¬ (hm = true ∨ ∃ j, st ≤ j ∧ j < i ∧ W j ≠ 0) := fun q => by rw [hmo.mpr q] at em; cases em
            exact ih (i + 1) false (by omega) (by omega) ⟨fun q => (by cases q), fun q => (by
              exfalso
              rcases q with q | ⟨j, a, b, c⟩
              · exact hno (Or.inl q)
              · by_cases z : j = i
                · rw [z] at c; omega
                · exact hno (Or.inr ⟨j, a, by omega, c⟩))⟩
          · skip
            refine qv_iconst C dq_Wrd_isMoreFrom_28 ?_
            refine qv_goto C (tgt := 33) (by decide) dq_Wrd_isMoreFrom_29 ?_
            refine qv_istore_n C (lv' := [(2, vi 1), (0, .ref w), (1, vi ((st : Nat) : Int)), (3, vi ((i : Nat) : Int))]) (by decide) rfl dq_Wrd_isMoreFrom_33 ?_
            refine qv_iinc C (j := 3) (lv' := [(3, vi (((i + 1) : Nat) : Int)), (2, vi 1), (0, .ref w), (1, vi ((st : Nat) : Int))]) (by omega) rfl (by decide) rfl dq_Wrd_isMoreFrom_34 ?_
            refine qv_goto C (tgt := 7) (by decide) dq_Wrd_isMoreFrom_37 ?_
            refine qv_lv [2, 3, 1, 0] (lv' := [(0, .ref w), (1, vi ((st : Nat) : Int)), (2, vi 1), (3, vi (((i + 1) : Nat) : Int))]) rfl ?_
            have em := b2_f h14
            have hno : ¬ (hm = true ∨ ∃ j, st ≤ j ∧ j < i ∧ W j ≠ 0) := fun q => by rw [hmo.mpr q] at em; cases em
            exact ih (i + 1) true (by omega) (by omega) ⟨fun _ => Or.inr ⟨i, by omega, by omega, by omega⟩, fun _ => rfl⟩
  refine qv_aload_n C rfl dq_Wrd_isMoreFrom_0 ?_
  refine qv_get C fl_Wrd_38 0 rfl rfl dq_Wrd_isMoreFrom_1 ?_
  refine qv_istore_n C (lv' := [(2, vi (b2 hm)), (0, .ref w), (1, vi ((st : Nat) : Int))]) (by decide) rfl dq_Wrd_isMoreFrom_4 ?_
  refine qv_iload_n C rfl dq_Wrd_isMoreFrom_5 ?_
  refine qv_istore_n C (lv' := [(3, vi ((st : Nat) : Int)), (2, vi (b2 hm)), (0, .ref w), (1, vi ((st : Nat) : Int))]) (by decide) rfl dq_Wrd_isMoreFrom_6 ?_
  refine qv_lv [2, 3, 1, 0] (lv' := [(0, .ref w), (1, vi ((st : Nat) : Int)), (2, vi (b2 hm)), (3, vi ((st : Nat) : Int))]) rfl ?_
  exact loop (max st 67 - st) st hm (by omega) (Nat.le_refl _) ⟨fun q => Or.inl q, fun q => q.elim id (fun ⟨j, a, b, _⟩ => by omega)⟩
end
section
theorem c_Wrd_load (cI cJ : ClassId) (w wa : Nat) (hm : Bool) (W : Nat → Nat) (g b fi en : Nat) (R : Nat → Nat) (hG : Gd R fi en) (hL : LN R en) (hI : dv 1000000000 R 35 < 4294967296 ^ 33) : MtV cI cJ ky_Wrd_load kb_Wrd_load 4 rm_Wrd_load Xt [.ref w, .ref g] [oc w 2 [.ref wa, vi (b2 hm)], aj cJ wa 70 W, oc g 1 [.ref b, vi ((fi : Nat) : Int), vi ((en : Nat) : Int)], aj cJ b 160 R] (fun u => ∃ (R2 : Nat → Nat) (fi2 en2 : Nat) (W2 : Nat → Nat) (mo : Bool) (T top F : Nat), u = ww cJ w wa mo W2 ++ gw cJ g b fi2 en2 R2 ∧ Wl (dv 1000000000 R 160) W2 mo T top F) := by
  refine MtV_in (by decide) (Nat.le_of_ble_eq_true rfl) (fun K C hR hX hN => ?_)
  show V K 4 [oc w 2 [.ref wa, vi (b2 hm)], aj cJ wa 70 W, oc g 1 [.ref b, vi ((fi : Nat) : Int), vi ((en : Nat) : Int)], aj cJ b 160 R] 0 0 0 [(0, .ref w), (1, .ref g)] []
  have loopB : ∀ n i top (W2 R2 : Nat → Nat) (fi2 en2 : Nat), i + n = 67 → 33 ≤ i → Gd R2 fi2 en2 → LN R2 en2 → (∀ i, W2 i < 4294967296) → (∀ j, i ≤ j → W2 j = 0) → WB (dv 1000000000 R 160) R2 W2 i → Tp W2 i top → V K 4 [oc w 2 [.ref wa, vi (b2 hm)], aj cJ wa 70 W2, oc g 1 [.ref b, vi ((fi2 : Nat) : Int), vi ((en2 : Nat) : Int)], aj cJ b 160 R2] 0 0 45 [(0, .ref w), (1, .ref g), (2, vi ((top : Nat) : Int)), (3, vi ((i : Nat) : Int))] [] := by
    intro n
    induction n with
    | zero =>
      intro i top W2 R2 fi2 en2 hin h33 y1 y2 y3 y4 y5 y6
      have y7 := y6.1
      have y8 := y1.2.2.2.1
      refine qv_iload_n C rfl dq_Wrd_load_45 ?_
      refine qv_bipush C (by decide) dq_Wrd_load_46 ?_
      refine qv_icge C (by omega) (by omega) (tgt := 97) (by decide) dq_Wrd_load_48 (fun h48 => ?_) (fun h48 => ?_)
      · skip
        refine qv_aload_n C rfl dq_Wrd_load_97 ?_
        refine qv_aload_n C rfl dq_Wrd_load_98 ?_
        refine qc_vI (wr := [oc w 2 [.ref wa, vi (b2 hm)], aj cJ wa 70 W2]) (st := [.ref w]) C cl_Wrd_34 cd_Grp_hasSomethingBehindPoint (c_Grp_hasSomethingBehindPoint cI cJ g b fi2 en2 R2 y8) (Xok_t K) Xbl_t [2, 3] [0, 1] rfl rfl (by decide) (by decide) (by decide) 0 rfl rfl rfl rfl rfl (Nat.le_of_ble_eq_true rfl) (by decide) (by decide) dq_Wrd_load_99 (fun z u hu => ?_)
        obtain ⟨rfl, rfl⟩ := hu
        show V K 4 [oc w 2 [.ref wa, vi (b2 hm)], aj cJ wa 70 W2, oc g 1 [.ref b, vi ((fi2 : Nat) : Int), vi ((en2 : Nat) : Int)], aj cJ b 160 R2] 0 0 102 [(0, .ref w), (1, .ref g), (2, vi ((top : Nat) : Int)), (3, vi ((i : Nat) : Int))] [vi (b2 (decide (35 < en2))), .ref w]
        refine qv_put C (ws' := [oc w 2 [.ref wa, vi (b2 (decide (35 < en2)))], aj cJ wa 70 W2, oc g 1 [.ref b, vi ((fi2 : Nat) : Int), vi ((en2 : Nat) : Int)], aj cJ b 160 R2]) fl_Wrd_38 fs_2_1 0 rfl (nz_b2 _) (fz_b2 _) (Nat.le_of_ble_eq_true rfl) rfl dq_Wrd_load_102 ?_
        refine qv_vret C hR ?_ dq_Wrd_load_105 (by decide) (by decide)
        exact ⟨R2, fi2, en2, W2, decide (35 < en2), i, top, ts 1000000000 R2 35 125, rfl, ⟨y3, fun j a _ => y4 j a, by omega, by omega, WB_F y1.1, y5, decide_eq_true_iff.trans (WB_more y1 y2), y6, by omega⟩⟩
      · exfalso; omega
    | succ n ih =>
      intro i top W2 R2 fi2 en2 hin h33 y1 y2 y3 y4 y5 y6
      have y7 := y6.1
      have y8 := y1.2.2.2.1
      refine qv_iload_n C rfl dq_Wrd_load_45 ?_
      refine qv_bipush C (by decide) dq_Wrd_load_46 ?_
      refine qv_icge C (by omega) (by omega) (tgt := 97) (by decide) dq_Wrd_load_48 (fun h48 => ?_) (fun h48 => ?_)
      · exfalso; omega
      · skip
        refine qv_iload_n C rfl dq_Wrd_load_51 ?_
        refine qv_iload_n C rfl dq_Wrd_load_52 ?_
        refine qv_iconst C dq_Wrd_load_53 ?_
        refine qv_iadd C (r := (((top + 3) : Nat) : Int)) (by omega) dq_Wrd_load_54 ?_
        refine qv_icge C (by omega) (by omega) (tgt := 97) (by decide) dq_Wrd_load_55 (fun h55 => ?_) (fun h55 => ?_)
        · skip
          refine qv_aload_n C rfl dq_Wrd_load_97 ?_
          refine qv_aload_n C rfl dq_Wrd_load_98 ?_
          refine qc_vI (wr := [oc w 2 [.ref wa, vi (b2 hm)], aj cJ wa 70 W2]) (st := [.ref w]) C cl_Wrd_34 cd_Grp_hasSomethingBehindPoint (c_Grp_hasSomethingBehindPoint cI cJ g b fi2 en2 R2 y8) (Xok_t K) Xbl_t [2, 3] [0, 1] rfl rfl (by decide) (by decide) (by decide) 0 rfl rfl rfl rfl rfl (Nat.le_of_ble_eq_true rfl) (by decide) (by decide) dq_Wrd_load_99 (fun z u hu => ?_)
          obtain ⟨rfl, rfl⟩ := hu
          show V K 4 [oc w 2 [.ref wa, vi (b2 hm)], aj cJ wa 70 W2, oc g 1 [.ref b, vi ((fi2 : Nat) : Int), vi ((en2 : Nat) : Int)], aj cJ b 160 R2] 0 0 102 [(0, .ref w), (1, .ref g), (2, vi ((top : Nat) : Int)), (3, vi ((i : Nat) : Int))] [vi (b2 (decide (35 < en2))), .ref w]
          refine qv_put C (ws' := [oc w 2 [.ref wa, vi (b2 (decide (35 < en2)))], aj cJ wa 70 W2, oc g 1 [.ref b, vi ((fi2 : Nat) : Int), vi ((en2 : Nat) : Int)], aj cJ b 160 R2]) fl_Wrd_38 fs_2_1 0 rfl (nz_b2 _) (fz_b2 _) (Nat.le_of_ble_eq_true rfl) rfl dq_Wrd_load_102 ?_
          refine qv_vret C hR ?_ dq_Wrd_load_105 (by decide) (by decide)
          exact ⟨R2, fi2, en2, W2, decide (35 < en2), i, top, ts 1000000000 R2 35 125, rfl, ⟨y3, fun j a _ => y4 j a, by omega, by omega, WB_F y1.1, y5, decide_eq_true_iff.trans (WB_more y1 y2), y6, by omega⟩⟩
        · skip
          refine qv_aload_n C rfl dq_Wrd_load_58 ?_
          refine qv_get C fl_Wrd_11 0 rfl rfl dq_Wrd_load_59 ?_
          refine qv_iload_n C rfl dq_Wrd_load_62 ?_
          refine qv_aload_n C rfl dq_Wrd_load_63 ?_
          refine qv_bipush C (by decide) dq_Wrd_load_64 ?_
          refine qv_bipush C (by decide) dq_Wrd_load_66 ?_
          refine qc_vJ (wr := [oc w 2 [.ref wa, vi (b2 hm)], aj cJ wa 70 W2]) (st := [vi ((i : Nat) : Int), .ref wa]) C cl_Wrd_31 cd_Grp_multiply (c_Grp_multiply cI cJ g b fi2 en2 R2 35 32 y1 (by omega) (by omega)) (Xok_t K) Xbl_t [2, 3] [0, 1] rfl rfl (by decide) (by decide) (by decide) 0 rfl rfl rfl rfl rfl (Nat.le_of_ble_eq_true rfl) (by decide) (by decide) dq_Wrd_load_68 (fun z u hu => ?_)
          obtain ⟨R3, fi3, en3, o, rfl, rfl, hM⟩ := hu
          obtain ⟨m1, m2, m3, m4, m5, m6, m7⟩ := id hM
          have ho : o < 4294967296 := m7
          show V K 4 [oc w 2 [.ref wa, vi (b2 hm)], aj cJ wa 70 W2, oc g 1 [.ref b, vi ((fi3 : Nat) : Int), vi ((en3 : Nat) : Int)], aj cJ b 160 R3] 0 0 71 [(0, .ref w), (1, .ref g), (2, vi ((top : Nat) : Int)), (3, vi ((i : Nat) : Int))] [vj ((o : Nat) : Int), vi ((i : Nat) : Int), .ref wa]
          refine qv_last C (ws' := [oc w 2 [.ref wa, vi (b2 hm)], aj cJ wa 70 (un W2 i o), oc g 1 [.ref b, vi ((fi3 : Nat) : Int), vi ((en3 : Nat) : Int)], aj cJ b 160 R3]) 1 i o rfl (by omega) (by omega) (by omega) (by omega) rfl dq_Wrd_load_71 ?_
          refine qv_aload_n C rfl dq_Wrd_load_72 ?_
          refine qv_get C fl_Wrd_11 0 rfl rfl dq_Wrd_load_73 ?_
          refine qv_iload_n C rfl dq_Wrd_load_76 ?_
          refine qv_lald C 1 i rfl (by omega) (by omega) (by omega) dq_Wrd_load_77 ?_
          refine qv_tj (r := ((o : Nat) : Int)) (by rw [un_at]) ?_
          refine qv_lconst C (z := 0) (by decide) dq_Wrd_load_78 ?_
          refine qv_lcne C (by omega) (by omega) dq_Wrd_load_79 (tgt := 91) (by decide) dq_Wrd_load_80 (fun h79 => ?_) (fun h79 => ?_)
          · skip
            refine qv_iinc C (j := 3) (lv' := [(3, vi (((i + 1) : Nat) : Int)), (0, .ref w), (1, .ref g), (2, vi ((top : Nat) : Int))]) (by omega) rfl (by decide) rfl dq_Wrd_load_91 ?_
            refine qv_goto C (tgt := 45) (by decide) dq_Wrd_load_94 ?_
            refine qv_lv [1, 2, 3, 0] (lv' := [(0, .ref w), (1, .ref g), (2, vi ((top : Nat) : Int)), (3, vi (((i + 1) : Nat) : Int))]) rfl ?_
            refine qv_eq (ih (i + 1) top _ R3 fi3 en3 (by omega) (by omega) m1 m4 (un_lt y3 ho) (fun j hj => by rw [un_ne _ (by omega)]; exact y4 j (by omega)) (WB_s h33 y5 m6) (Tp_a y6 (Or.inr (by omega)))) rfl rfl rfl
          · skip
            refine qv_iload_n C rfl dq_Wrd_load_83 ?_
            refine qv_iload_n C rfl dq_Wrd_load_84 ?_
            refine qv_icne C (by omega) (by omega) (tgt := 91) (by decide) dq_Wrd_load_85 (fun h85 => ?_) (fun h85 => ?_)
            · skip
              refine qv_iinc C (j := 3) (lv' := [(3, vi (((i + 1) : Nat) : Int)), (0, .ref w), (1, .ref g), (2, vi ((top : Nat) : Int))]) (by omega) rfl (by decide) rfl dq_Wrd_load_91 ?_
              refine qv_goto C (tgt := 45) (by decide) dq_Wrd_load_94 ?_
              refine qv_lv [1, 2, 3, 0] (lv' := [(0, .ref w), (1, .ref g), (2, vi ((top : Nat) : Int)), (3, vi (((i + 1) : Nat) : Int))]) rfl ?_
              refine qv_eq (ih (i + 1) top _ R3 fi3 en3 (by omega) (by omega) m1 m4 (un_lt y3 ho) (fun j hj => by rw [un_ne _ (by omega)]; exact y4 j (by omega)) (WB_s h33 y5 m6) (Tp_a y6 (Or.inl (by omega)))) rfl rfl rfl
            · skip
              refine qv_iinc C (j := 2) (lv' := [(2, vi (((top + 1) : Nat) : Int)), (0, .ref w), (1, .ref g), (3, vi ((i : Nat) : Int))]) (by omega) rfl (by decide) rfl dq_Wrd_load_88 ?_
              refine qv_iinc C (j := 3) (lv' := [(3, vi (((i + 1) : Nat) : Int)), (2, vi (((top + 1) : Nat) : Int)), (0, .ref w), (1, .ref g)]) (by omega) rfl (by decide) rfl dq_Wrd_load_91 ?_
              refine qv_goto C (tgt := 45) (by decide) dq_Wrd_load_94 ?_
              refine qv_lv [2, 3, 1, 0] (lv' := [(0, .ref w), (1, .ref g), (2, vi (((top + 1) : Nat) : Int)), (3, vi (((i + 1) : Nat) : Int))]) rfl ?_
              refine qv_eq (ih (i + 1) (i + 1) _ R3 fi3 en3 (by omega) (by omega) m1 m4 (un_lt y3 ho) (fun j hj => by rw [un_ne _ (by omega)]; exact y4 j (by omega)) (WB_s h33 y5 m6) (by
                have e1 : top = i := by omega
                have e2 : o = 0 := by omega
                rw [e2]
                rw [e1] at y6
                exact Tp_b y6)) rfl (by
                have e1 : top = i := by omega
                rw [e1]) rfl
  have loopA : ∀ c (W2 R2 : Nat → Nat) (fi2 en2 : Nat), c ≤ 33 → Gd R2 fi2 en2 → LN R2 en2 → (∀ i, W2 i < 4294967296) → (∀ j, 33 ≤ j → W2 j = 0) → WA R R2 W2 c → (∀ j, 35 ≤ j → R2 j = R j) → V K 4 [oc w 2 [.ref wa, vi (b2 hm)], aj cJ wa 70 W2, oc g 1 [.ref b, vi ((fi2 : Nat) : Int), vi ((en2 : Nat) : Int)], aj cJ b 160 R2] 0 0 11 [(0, .ref w), (1, .ref g), (2, vi (((c : Nat) : Int) - 1))] [] := by
    intro c
    induction c with
    | zero =>
      intro W2 R2 fi2 en2 hc y1 y2 y3 y4 y5 y6
      obtain ⟨e1, e2⟩ := WA_e y5 hI
      refine qv_iload_n C rfl dq_Wrd_load_11 ?_
      refine qv_iflt C (by omega) (tgt := 35) (by decide) dq_Wrd_load_12 (fun h12 => ?_) (fun h12 => ?_)
      · skip
        refine qv_aload_n C rfl dq_Wrd_load_35 ?_
        refine qv_bipush C (by decide) dq_Wrd_load_36 ?_
        refine qc_vI (wr := [oc g 1 [.ref b, vi ((fi2 : Nat) : Int), vi ((en2 : Nat) : Int)], aj cJ b 160 R2]) (st := []) C cl_Wrd_27 cd_Wrd_firstThatIsNotZero (c_Wrd_firstThatIsNotZero cI cJ w wa hm W2 33 y3 (by omega)) (Xok_t K) Xbl_t [0, 1] [2, 3] rfl rfl (by decide) (by decide) (by decide) 0 rfl rfl rfl rfl rfl (Nat.le_of_ble_eq_true rfl) (by decide) (by decide) dq_Wrd_load_38 (fun z u hu => ?_)
        obtain ⟨top, rfl, hWf, rfl⟩ := hu
        show V K 4 [oc g 1 [.ref b, vi ((fi2 : Nat) : Int), vi ((en2 : Nat) : Int)], aj cJ b 160 R2, oc w 2 [.ref wa, vi (b2 hm)], aj cJ wa 70 W2] 0 0 41 [(0, .ref w), (1, .ref g), (2, vi (((0 : Nat) : Int) - 1))] [vi ((top : Nat) : Int)]
        refine qv_istore_n C (lv' := [(2, vi ((top : Nat) : Int)), (0, .ref w), (1, .ref g)]) (by decide) rfl dq_Wrd_load_41 ?_
        refine qv_bipush C (by decide) dq_Wrd_load_42 ?_
        refine qv_istore_n C (lv' := [(3, vi 33), (2, vi ((top : Nat) : Int)), (0, .ref w), (1, .ref g)]) (by decide) rfl dq_Wrd_load_44 ?_
        refine qv_ws [2, 3, 0, 1] (ws' := [oc w 2 [.ref wa, vi (b2 hm)], aj cJ wa 70 W2, oc g 1 [.ref b, vi ((fi2 : Nat) : Int), vi ((en2 : Nat) : Int)], aj cJ b 160 R2]) (by decide) rfl ?_
        refine qv_lv [2, 3, 1, 0] (lv' := [(0, .ref w), (1, .ref g), (2, vi ((top : Nat) : Int)), (3, vi 33)]) rfl ?_
        exact loopB 34 33 top W2 R2 fi2 en2 (by omega) (by omega) y1 y2 y3 y4 (WB_0 rfl e2 y6) hWf
      · exfalso; omega
    | succ c ih =>
      intro W2 R2 fi2 en2 hc y1 y2 y3 y4 y5 y6
      have et : (((c + 1 : Nat) : Int) - 1) = ((c : Nat) : Int) := by omega
      rw [et]
      refine qv_iload_n C rfl dq_Wrd_load_11 ?_
      refine qv_iflt C (by omega) (tgt := 35) (by decide) dq_Wrd_load_12 (fun h12 => ?_) (fun h12 => ?_)
      · exfalso; omega
      · skip
        refine qv_aload_n C rfl dq_Wrd_load_15 ?_
        refine qv_get C fl_Wrd_11 0 rfl rfl dq_Wrd_load_16 ?_
        refine qv_iload_n C rfl dq_Wrd_load_19 ?_
        refine qv_aload_n C rfl dq_Wrd_load_20 ?_
        refine qv_bipush C (by decide) dq_Wrd_load_21 ?_
        refine qv_bipush C (by decide) dq_Wrd_load_23 ?_
        refine qc_vJ (wr := [oc w 2 [.ref wa, vi (b2 hm)], aj cJ wa 70 W2]) (st := [vi ((c : Nat) : Int), .ref wa]) C cl_Wrd_23 cd_Grp_divide (c_Grp_divide cI cJ g b fi2 en2 R2 35 32 y1 (by omega) (by omega)) (Xok_t K) Xbl_t [2, 3] [0, 1] rfl rfl (by decide) (by decide) (by decide) 0 rfl rfl rfl rfl rfl (Nat.le_of_ble_eq_true rfl) (by decide) (by decide) dq_Wrd_load_25 (fun z u hu => ?_)
        obtain ⟨R3, fi3, en3, o, rfl, rfl, hM⟩ := hu
        obtain ⟨m1, m2, m3, m4, m5, m6, m7⟩ := id hM
        have ho : o < 4294967296 := m4
        show V K 4 [oc w 2 [.ref wa, vi (b2 hm)], aj cJ wa 70 W2, oc g 1 [.ref b, vi ((fi3 : Nat) : Int), vi ((en3 : Nat) : Int)], aj cJ b 160 R3] 0 0 28 [(0, .ref w), (1, .ref g), (2, vi ((c : Nat) : Int))] [vj ((o : Nat) : Int), vi ((c : Nat) : Int), .ref wa]
        refine qv_last C (ws' := [oc w 2 [.ref wa, vi (b2 hm)], aj cJ wa 70 (un W2 c o), oc g 1 [.ref b, vi ((fi3 : Nat) : Int), vi ((en3 : Nat) : Int)], aj cJ b 160 R3]) 1 c o rfl (by omega) (by omega) (by omega) (by omega) rfl dq_Wrd_load_28 ?_
        refine qv_iinc C (j := 2) (lv' := [(2, vi (((c : Nat) : Int) - 1)), (0, .ref w), (1, .ref g)]) (by omega) rfl (by decide) rfl dq_Wrd_load_29 ?_
        refine qv_goto C (tgt := 11) (by decide) dq_Wrd_load_32 ?_
        refine qv_lv [1, 2, 0] (lv' := [(0, .ref w), (1, .ref g), (2, vi (((c : Nat) : Int) - 1))]) rfl ?_
        exact ih _ R3 fi3 en3 (by omega) m1 (m7 y2 (Or.inl (by omega))) (un_lt y3 ho) (fun j hj => by rw [un_ne _ (by omega)]; exact y4 j hj) (WA_s (by omega) y5 m3) (fun j hj => by rw [m2 j hj]; exact y6 j hj)
  refine qv_aload_n C rfl dq_Wrd_load_0 ?_
  refine qv_get C fl_Wrd_11 0 rfl rfl dq_Wrd_load_1 ?_
  refine qv_lconst C (z := 0) (by decide) dq_Wrd_load_4 ?_
  refine qc_sV (wr := [oc w 2 [.ref wa, vi (b2 hm)], oc g 1 [.ref b, vi ((fi : Nat) : Int), vi ((en : Nat) : Int)], aj cJ b 160 R]) (st := []) C cl_Wrd_15 cd_JArr_fill (c_JArr_fill cI cJ wa 70 0 W (by omega)) (Xok_t K) Xbl_t [1] [0, 2, 3] rfl rfl (by decide) (by decide) (by decide) rfl rfl (Nat.le_of_ble_eq_true rfl) (by decide) (by decide) dq_Wrd_load_5 (fun u hu => ?_)
  obtain rfl := hu
  show V K 4 [oc w 2 [.ref wa, vi (b2 hm)], oc g 1 [.ref b, vi ((fi : Nat) : Int), vi ((en : Nat) : Int)], aj cJ b 160 R, aj cJ wa 70 (fun _ => 0)] 0 0 8 [(0, .ref w), (1, .ref g)] []
  refine qv_bipush C (by decide) dq_Wrd_load_8 ?_
  refine qv_istore_n C (lv' := [(2, vi 32), (0, .ref w), (1, .ref g)]) (by decide) rfl dq_Wrd_load_10 ?_
  refine qv_ws [0, 3, 1, 2] (ws' := [oc w 2 [.ref wa, vi (b2 hm)], aj cJ wa 70 (fun _ => 0), oc g 1 [.ref b, vi ((fi : Nat) : Int), vi ((en : Nat) : Int)], aj cJ b 160 R]) (by decide) rfl ?_
  refine qv_lv [1, 2, 0] (lv' := [(0, .ref w), (1, .ref g), (2, vi 32)]) rfl ?_
  exact loopA 33 (fun _ => 0) R fi en (by omega) hG hL (fun _ => by omega) (fun _ _ => rfl) (WA_0 R _) (fun _ _ => rfl)

theorem c_Wrd_roundHead (cI cJ : ClassId) (head : Nat) (more : Bool) (tb : Int) (hh1 : 9223372036854775808 ≤ head) (hh2 : head < 18446744073709551616) (ht1 : -1088 ≤ tb) (ht2 : tb ≤ 1023) : MtJ cI cJ ky_Wrd_roundHead kb_Wrd_roundHead 13 rm_Wrd_roundHead Xt [vj ((head : Nat) : Int), vi (b2 more), vi tb] [] (fun z u => Rh head more tb z ∧ u = []) := by
  refine MtJ_in (by decide) (Nat.le_of_ble_eq_true rfl) (fun K C hR hX hN => ?_)
  show V K 13 [] 0 0 0 [(0, vj ((head : Nat) : Int)), (2, vi (b2 more)), (3, vi tb)] []
  obtain ⟨P, hP⟩ : ∃ P : Int, P = max (tb - 52) (-1074) := ⟨_, rfl⟩
  by_cases hneg : tb - P + 1 < 0
  · skip
    refine qv_iload_n C rfl dq_Wrd_roundHead_0 ?_
    refine qv_bipush C (by decide) dq_Wrd_roundHead_1 ?_
    refine qv_isub C (r := (tb - 52)) rfl dq_Wrd_roundHead_3 ?_
    refine qv_sipush C (by decide) dq_Wrd_roundHead_4 ?_
    refine qv_mmax (r := P) C cl_Wrd_58 wm_max_s wm_init wm_max_c (by omega) (by omega) (by decide) (Nat.le_of_ble_eq_true rfl) (by decide) (by decide) (by omega) dq_Wrd_roundHead_7 ?_
    refine qv_istore C (lv' := [(4, vi P), (0, vj ((head : Nat) : Int)), (2, vi (b2 more)), (3, vi tb)]) (by decide) rfl dq_Wrd_roundHead_10 ?_
    refine qv_iload_n C rfl dq_Wrd_roundHead_12 ?_
    refine qv_iload C rfl dq_Wrd_roundHead_13 ?_
    refine qv_isub C (r := (tb - P)) rfl dq_Wrd_roundHead_15 ?_
    refine qv_iconst C dq_Wrd_roundHead_16 ?_
    refine qv_iadd C (r := (tb - P + 1)) rfl dq_Wrd_roundHead_17 ?_
    refine qv_istore C (lv' := [(5, vi (tb - P + 1)), (4, vi P), (0, vj ((head : Nat) : Int)), (2, vi (b2 more)), (3, vi tb)]) (by decide) rfl dq_Wrd_roundHead_18 ?_
    refine qv_iload C rfl dq_Wrd_roundHead_20 ?_
    refine qv_ifge C (by omega) (tgt := 27) (by decide) dq_Wrd_roundHead_22 (fun h22 => ?_) (fun h22 => ?_)
    · exfalso; omega
    · skip
      refine qv_lconst C (z := 0) (by decide) dq_Wrd_roundHead_25 ?_
      refine qv_lret C hR ?_ dq_Wrd_roundHead_26 (by decide) (by decide)
      exact ⟨Or.inl ⟨by omega, rfl⟩, rfl⟩
  · obtain ⟨b, hb⟩ : ∃ b : Nat, tb - P + 1 = (b : Int) := ⟨(tb - P + 1).toNat, by omega⟩
    obtain ⟨q, hq⟩ : ∃ q : Nat, P + 1074 = (q : Int) := ⟨(P + 1074).toNat, by omega⟩
    have hb53 : b ≤ 53 := by omega
    obtain ⟨hA, hB⟩ := hd_bits (head := head) (b := b) (by omega)
    obtain ⟨f, hf⟩ : ∃ f, f = head / 2 ^ (64 - b) := ⟨_, rfl⟩
    obtain ⟨h1, hh1e⟩ : ∃ x, x = head / 2 ^ (63 - b) % 2 := ⟨_, rfl⟩
    obtain ⟨lo, hlo⟩ : ∃ x, x = head % 2 ^ (63 - b) := ⟨_, rfl⟩
    have hf53 : f < 9007199254740992 := by
      rw [hf, Nat.div_lt_iff_lt_mul (Nat.pow_pos (by omega))]
      have e : (18446744073709551616 : Nat) = 2 ^ b * 2 ^ (64 - b) := by rw [← Nat.pow_add, show b + (64 - b) = 64 by omega]
      have e2 : 2 ^ b * 2 ^ (64 - b) ≤ 9007199254740992 * 2 ^ (64 - b) := Nat.mul_le_mul_right _ (Nat.le_trans (Nat.pow_le_pow_right (by omega) hb53) (by decide))
      omega
    obtain ⟨Y, hY⟩ : ∃ Y, Y = sj (head * 2 ^ b % 18446744073709551616) := ⟨_, rfl⟩
    obtain ⟨Y2, hY2⟩ : ∃ Y, Y = sj (head * 2 ^ b * 2 ^ 1 % 18446744073709551616) := ⟨_, rfl⟩
    have hYr : rj Y := by rw [hY]; exact sj_rj (Nat.mod_lt _ (by omega))
    have hY2r : rj Y2 := by rw [hY2]; exact sj_rj (Nat.mod_lt _ (by omega))
    have hYn : Y < 0 ↔ h1 = 1 := by rw [hY, hh1e, sj_neg (Nat.mod_lt _ (by omega))]; exact hA
    have hY20 : Y2 = 0 ↔ lo = 0 := by rw [hY2, hlo, sj_0 (Nat.mod_lt _ (by omega))]; exact hB
    have hh12 : h1 < 2 := by rw [hh1e]; omega
    have goal : ∀ (z : Int) (up : Bool), z = ((q * 4503599627370496 + f + (if up = true then 1 else 0) : Nat) : Int) → (up = true ↔ h1 = 1 ∧ (lo ≠ 0 ∨ more = true ∨ f % 2 = 1)) → Rh head more tb z := by
      intro z up e1 e2
      refine Or.inr ⟨b, q, up, by omega, by omega, ?_, ?_⟩
      · rw [e1, hf]
      · rw [e2, hf, hh1e, hlo]
    have hmo : b2 more = 0 → more = false := b2_f
    have hmo2 : b2 more ≠ 0 → more = true := b2_t
    refine qv_iload_n C rfl dq_Wrd_roundHead_0 ?_
    refine qv_bipush C (by decide) dq_Wrd_roundHead_1 ?_
    refine qv_isub C (r := (tb - 52)) rfl dq_Wrd_roundHead_3 ?_
    refine qv_sipush C (by decide) dq_Wrd_roundHead_4 ?_
    refine qv_mmax (r := P) C cl_Wrd_58 wm_max_s wm_init wm_max_c (by omega) (by omega) (by decide) (Nat.le_of_ble_eq_true rfl) (by decide) (by decide) (by omega) dq_Wrd_roundHead_7 ?_
    refine qv_istore C (lv' := [(4, vi P), (0, vj ((head : Nat) : Int)), (2, vi (b2 more)), (3, vi tb)]) (by decide) rfl dq_Wrd_roundHead_10 ?_
    refine qv_iload_n C rfl dq_Wrd_roundHead_12 ?_
    refine qv_iload C rfl dq_Wrd_roundHead_13 ?_
    refine qv_isub C (r := (tb - P)) rfl dq_Wrd_roundHead_15 ?_
    refine qv_iconst C dq_Wrd_roundHead_16 ?_
    refine qv_iadd C (r := ((b : Nat) : Int)) (by omega) dq_Wrd_roundHead_17 ?_
    refine qv_istore C (lv' := [(5, vi ((b : Nat) : Int)), (4, vi P), (0, vj ((head : Nat) : Int)), (2, vi (b2 more)), (3, vi tb)]) (by decide) rfl dq_Wrd_roundHead_18 ?_
    refine qv_iload C rfl dq_Wrd_roundHead_20 ?_
    refine qv_ifge C (by omega) (tgt := 27) (by decide) dq_Wrd_roundHead_22 (fun h22 => ?_) (fun h22 => ?_)
    · skip
      refine qv_iload C rfl dq_Wrd_roundHead_27 ?_
      refine qv_ifne C (by omega) (tgt := 36) (by decide) dq_Wrd_roundHead_29 (fun h29 => ?_) (fun h29 => ?_)
      · skip
        refine qv_lload_n C rfl dq_Wrd_roundHead_36 ?_
        refine qv_bipush C (by decide) dq_Wrd_roundHead_37 ?_
        refine qv_iload C rfl dq_Wrd_roundHead_39 ?_
        refine qv_isub C (r := (((64 - b) : Nat) : Int)) (by omega) dq_Wrd_roundHead_41 ?_
        refine qv_lushr C head (64 - b) (by omega) (by omega) (by omega) (by omega) dq_Wrd_roundHead_42 ?_
        refine qv_tj (r := ((f : Nat) : Int)) (by rw [hf]) ?_
        refine qv_lstore C (lv' := [(6, vj ((f : Nat) : Int)), (5, vi ((b : Nat) : Int)), (4, vi P), (0, vj ((head : Nat) : Int)), (2, vi (b2 more)), (3, vi tb)]) (by decide) rfl dq_Wrd_roundHead_43 ?_
        refine qv_lload_n C rfl dq_Wrd_roundHead_45 ?_
        refine qv_iload C rfl dq_Wrd_roundHead_46 ?_
        refine qv_lshl C head b (by omega) (by omega) (by omega) dq_Wrd_roundHead_48 ?_
        refine qv_lstore C (lv' := [(8, vj ((head * 2 ^ b : Nat) : Int)), (6, vj ((f : Nat) : Int)), (5, vi ((b : Nat) : Int)), (4, vi P), (0, vj ((head : Nat) : Int)), (2, vi (b2 more)), (3, vi tb)]) (by decide) rfl dq_Wrd_roundHead_49 ?_
        refine qv_lload C rfl dq_Wrd_roundHead_51 ?_
        refine qv_tjw (r := Y) (by rw [hY]; exact zj_sj _) ?_
        refine qv_lconst C (z := 0) (by decide) dq_Wrd_roundHead_53 ?_
        refine qv_lcge C (by omega) (by omega) dq_Wrd_roundHead_54 (tgt := 62) (by decide) dq_Wrd_roundHead_55 (fun h54 => ?_) (fun h54 => ?_)
        · skip
          refine qv_iconst C dq_Wrd_roundHead_62 ?_
          refine qv_istore C (lv' := [(10, vi 0), (8, vj ((head * 2 ^ b : Nat) : Int)), (6, vj ((f : Nat) : Int)), (5, vi ((b : Nat) : Int)), (4, vi P), (0, vj ((head : Nat) : Int)), (2, vi (b2 more)), (3, vi tb)]) (by decide) rfl dq_Wrd_roundHead_63 ?_
          refine qv_iload C rfl dq_Wrd_roundHead_65 ?_
          refine qv_ifeq C (by omega) (tgt := 87) (by decide) dq_Wrd_roundHead_67 (fun h67 => ?_) (fun h67 => ?_)
          · skip
            refine qv_iconst C dq_Wrd_roundHead_87 ?_
            refine qv_istore C (lv' := [(11, vi 0), (10, vi 0), (8, vj ((head * 2 ^ b : Nat) : Int)), (6, vj ((f : Nat) : Int)), (5, vi ((b : Nat) : Int)), (4, vi P), (0, vj ((head : Nat) : Int)), (2, vi (b2 more)), (3, vi tb)]) (by decide) rfl dq_Wrd_roundHead_88 ?_
            refine qv_iload C rfl dq_Wrd_roundHead_90 ?_
            refine qv_ifeq C (by omega) (tgt := 112) (by decide) dq_Wrd_roundHead_92 (fun h92 => ?_) (fun h92 => ?_)
            · skip
              refine qv_iload C rfl dq_Wrd_roundHead_112 ?_
              refine qv_istore C (lv' := [(12, vi 0), (11, vi 0), (10, vi 0), (8, vj ((head * 2 ^ b : Nat) : Int)), (6, vj ((f : Nat) : Int)), (5, vi ((b : Nat) : Int)), (4, vi P), (0, vj ((head : Nat) : Int)), (2, vi (b2 more)), (3, vi tb)]) (by decide) rfl dq_Wrd_roundHead_114 ?_
              refine qv_iload C rfl dq_Wrd_roundHead_116 ?_
              refine qv_sipush C (by decide) dq_Wrd_roundHead_118 ?_
              refine qv_isub C (r := ((q : Nat) : Int)) (by omega) dq_Wrd_roundHead_121 ?_
              refine qv_i2l C (by omega) dq_Wrd_roundHead_122 ?_
              refine qv_bipush C (by decide) dq_Wrd_roundHead_123 ?_
              refine qv_lshl C q 52 (by omega) (by omega) (by omega) dq_Wrd_roundHead_125 ?_
              refine qv_lload C rfl dq_Wrd_roundHead_126 ?_
              refine qv_ladd C (r := (((q * 2 ^ 52 + f) : Nat) : Int)) (by omega) dq_Wrd_roundHead_128 ?_
              refine qv_iload C rfl dq_Wrd_roundHead_129 ?_
              refine qv_ifeq C (by omega) (tgt := 138) (by decide) dq_Wrd_roundHead_131 (fun h131 => ?_) (fun h131 => ?_)
              · skip
                refine qv_iconst C dq_Wrd_roundHead_138 ?_
                refine qv_i2l C (by omega) dq_Wrd_roundHead_139 ?_
                refine qv_ladd C (r := (((q * 2 ^ 52 + f) : Nat) : Int)) (by omega) dq_Wrd_roundHead_140 ?_
                refine qv_lret C hR ?_ dq_Wrd_roundHead_141 (by decide) (by decide)
                refine ⟨goal _ false (by simp) ⟨fun q => (by cases q), fun q => ?_⟩, rfl⟩
                exfalso
                omega
              · exfalso; omega
            · exfalso; omega
          · exfalso; omega
        · skip
          refine qv_iconst C dq_Wrd_roundHead_58 ?_
          refine qv_goto C (tgt := 63) (by decide) dq_Wrd_roundHead_59 ?_
          refine qv_istore C (lv' := [(10, vi 1), (8, vj ((head * 2 ^ b : Nat) : Int)), (6, vj ((f : Nat) : Int)), (5, vi ((b : Nat) : Int)), (4, vi P), (0, vj ((head : Nat) : Int)), (2, vi (b2 more)), (3, vi tb)]) (by decide) rfl dq_Wrd_roundHead_63 ?_
          refine qv_iload C rfl dq_Wrd_roundHead_65 ?_
          refine qv_ifeq C (by omega) (tgt := 87) (by decide) dq_Wrd_roundHead_67 (fun h67 => ?_) (fun h67 => ?_)
          · exfalso; omega
          · skip
            refine qv_lload C rfl dq_Wrd_roundHead_70 ?_
            refine qv_iconst C dq_Wrd_roundHead_72 ?_
            refine qv_lshl C (head * 2 ^ b) 1 (by omega) (by omega) (by omega) dq_Wrd_roundHead_73 ?_
            refine qv_tjw (r := Y2) (by rw [hY2]; exact zj_sj _) ?_
            refine qv_lconst C (z := 0) (by decide) dq_Wrd_roundHead_74 ?_
            refine qv_lcne C (by omega) (by omega) dq_Wrd_roundHead_75 (tgt := 87) (by decide) dq_Wrd_roundHead_76 (fun h75 => ?_) (fun h75 => ?_)
            · skip
              refine qv_iconst C dq_Wrd_roundHead_87 ?_
              refine qv_istore C (lv' := [(11, vi 0), (10, vi 1), (8, vj ((head * 2 ^ b : Nat) : Int)), (6, vj ((f : Nat) : Int)), (5, vi ((b : Nat) : Int)), (4, vi P), (0, vj ((head : Nat) : Int)), (2, vi (b2 more)), (3, vi tb)]) (by decide) rfl dq_Wrd_roundHead_88 ?_
              refine qv_iload C rfl dq_Wrd_roundHead_90 ?_
              refine qv_ifeq C (by omega) (tgt := 112) (by decide) dq_Wrd_roundHead_92 (fun h92 => ?_) (fun h92 => ?_)
              · skip
                refine qv_iload C rfl dq_Wrd_roundHead_112 ?_
                refine qv_istore C (lv' := [(12, vi 1), (11, vi 0), (10, vi 1), (8, vj ((head * 2 ^ b : Nat) : Int)), (6, vj ((f : Nat) : Int)), (5, vi ((b : Nat) : Int)), (4, vi P), (0, vj ((head : Nat) : Int)), (2, vi (b2 more)), (3, vi tb)]) (by decide) rfl dq_Wrd_roundHead_114 ?_
                refine qv_iload C rfl dq_Wrd_roundHead_116 ?_
                refine qv_sipush C (by decide) dq_Wrd_roundHead_118 ?_
                refine qv_isub C (r := ((q : Nat) : Int)) (by omega) dq_Wrd_roundHead_121 ?_
                refine qv_i2l C (by omega) dq_Wrd_roundHead_122 ?_
                refine qv_bipush C (by decide) dq_Wrd_roundHead_123 ?_
                refine qv_lshl C q 52 (by omega) (by omega) (by omega) dq_Wrd_roundHead_125 ?_
                refine qv_lload C rfl dq_Wrd_roundHead_126 ?_
                refine qv_ladd C (r := (((q * 2 ^ 52 + f) : Nat) : Int)) (by omega) dq_Wrd_roundHead_128 ?_
                refine qv_iload C rfl dq_Wrd_roundHead_129 ?_
                refine qv_ifeq C (by omega) (tgt := 138) (by decide) dq_Wrd_roundHead_131 (fun h131 => ?_) (fun h131 => ?_)
                · exfalso; omega
                · skip
                  refine qv_iconst C dq_Wrd_roundHead_134 ?_
                  refine qv_goto C (tgt := 139) (by decide) dq_Wrd_roundHead_135 ?_
                  refine qv_i2l C (by omega) dq_Wrd_roundHead_139 ?_
                  refine qv_ladd C (r := ((((q * 2 ^ 52 + f) + 1) : Nat) : Int)) (by omega) dq_Wrd_roundHead_140 ?_
                  refine qv_lret C hR ?_ dq_Wrd_roundHead_141 (by decide) (by decide)
                  refine ⟨goal _ true (by simp) ⟨fun _ => ⟨by omega, ?_⟩, fun _ => rfl⟩, rfl⟩
                  first | exact Or.inl (by omega) | exact Or.inr (Or.inr (by omega))
              · exfalso; omega
            · skip
              refine qv_iload_n C rfl dq_Wrd_roundHead_79 ?_
              refine qv_ifne C (rb_b2 more) (tgt := 87) (by decide) dq_Wrd_roundHead_80 (fun h80 => ?_) (fun h80 => ?_)
              · skip
                refine qv_iconst C dq_Wrd_roundHead_87 ?_
                refine qv_istore C (lv' := [(11, vi 0), (10, vi 1), (8, vj ((head * 2 ^ b : Nat) : Int)), (6, vj ((f : Nat) : Int)), (5, vi ((b : Nat) : Int)), (4, vi P), (0, vj ((head : Nat) : Int)), (2, vi (b2 more)), (3, vi tb)]) (by decide) rfl dq_Wrd_roundHead_88 ?_
                refine qv_iload C rfl dq_Wrd_roundHead_90 ?_
                refine qv_ifeq C (by omega) (tgt := 112) (by decide) dq_Wrd_roundHead_92 (fun h92 => ?_) (fun h92 => ?_)
                · skip
                  refine qv_iload C rfl dq_Wrd_roundHead_112 ?_
                  refine qv_istore C (lv' := [(12, vi 1), (11, vi 0), (10, vi 1), (8, vj ((head * 2 ^ b : Nat) : Int)), (6, vj ((f : Nat) : Int)), (5, vi ((b : Nat) : Int)), (4, vi P), (0, vj ((head : Nat) : Int)), (2, vi (b2 more)), (3, vi tb)]) (by decide) rfl dq_Wrd_roundHead_114 ?_
                  refine qv_iload C rfl dq_Wrd_roundHead_116 ?_
                  refine qv_sipush C (by decide) dq_Wrd_roundHead_118 ?_
                  refine qv_isub C (r := ((q : Nat) : Int)) (by omega) dq_Wrd_roundHead_121 ?_
                  refine qv_i2l C (by omega) dq_Wrd_roundHead_122 ?_
                  refine qv_bipush C (by decide) dq_Wrd_roundHead_123 ?_
                  refine qv_lshl C q 52 (by omega) (by omega) (by omega) dq_Wrd_roundHead_125 ?_
                  refine qv_lload C rfl dq_Wrd_roundHead_126 ?_
                  refine qv_ladd C (r := (((q * 2 ^ 52 + f) : Nat) : Int)) (by omega) dq_Wrd_roundHead_128 ?_
                  refine qv_iload C rfl dq_Wrd_roundHead_129 ?_
                  refine qv_ifeq C (by omega) (tgt := 138) (by decide) dq_Wrd_roundHead_131 (fun h131 => ?_) (fun h131 => ?_)
                  · exfalso; omega
                  · skip
                    refine qv_iconst C dq_Wrd_roundHead_134 ?_
                    refine qv_goto C (tgt := 139) (by decide) dq_Wrd_roundHead_135 ?_
                    refine qv_i2l C (by omega) dq_Wrd_roundHead_139 ?_
                    refine qv_ladd C (r := ((((q * 2 ^ 52 + f) + 1) : Nat) : Int)) (by omega) dq_Wrd_roundHead_140 ?_
                    refine qv_lret C hR ?_ dq_Wrd_roundHead_141 (by decide) (by decide)
                    have em := hmo2 h80
                    refine ⟨goal _ true (by simp) ⟨fun _ => ⟨by omega, ?_⟩, fun _ => rfl⟩, rfl⟩
                    exact Or.inr (Or.inl em)
                · exfalso; omega
              · skip
                refine qv_iconst C dq_Wrd_roundHead_83 ?_
                refine qv_goto C (tgt := 88) (by decide) dq_Wrd_roundHead_84 ?_
                refine qv_istore C (lv' := [(11, vi 1), (10, vi 1), (8, vj ((head * 2 ^ b : Nat) : Int)), (6, vj ((f : Nat) : Int)), (5, vi ((b : Nat) : Int)), (4, vi P), (0, vj ((head : Nat) : Int)), (2, vi (b2 more)), (3, vi tb)]) (by decide) rfl dq_Wrd_roundHead_88 ?_
                refine qv_iload C rfl dq_Wrd_roundHead_90 ?_
                refine qv_ifeq C (by omega) (tgt := 112) (by decide) dq_Wrd_roundHead_92 (fun h92 => ?_) (fun h92 => ?_)
                · exfalso; omega
                · skip
                  refine qv_lload C rfl dq_Wrd_roundHead_95 ?_
                  refine qv_lconst C (z := 1) (by decide) dq_Wrd_roundHead_97 ?_
                  refine qv_land C (r := (((f % 2) : Nat) : Int)) (zj_and (a := f) (b := 1) (by omega)) dq_Wrd_roundHead_98 ?_
                  refine qv_lconst C (z := 1) (by decide) dq_Wrd_roundHead_99 ?_
                  refine qv_lcne C (by omega) (by omega) dq_Wrd_roundHead_100 (tgt := 108) (by decide) dq_Wrd_roundHead_101 (fun h100 => ?_) (fun h100 => ?_)
                  · skip
                    refine qv_iconst C dq_Wrd_roundHead_108 ?_
                    refine qv_goto C (tgt := 114) (by decide) dq_Wrd_roundHead_109 ?_
                    refine qv_istore C (lv' := [(12, vi 0), (11, vi 1), (10, vi 1), (8, vj ((head * 2 ^ b : Nat) : Int)), (6, vj ((f : Nat) : Int)), (5, vi ((b : Nat) : Int)), (4, vi P), (0, vj ((head : Nat) : Int)), (2, vi (b2 more)), (3, vi tb)]) (by decide) rfl dq_Wrd_roundHead_114 ?_
                    refine qv_iload C rfl dq_Wrd_roundHead_116 ?_
                    refine qv_sipush C (by decide) dq_Wrd_roundHead_118 ?_
                    refine qv_isub C (r := ((q : Nat) : Int)) (by omega) dq_Wrd_roundHead_121 ?_
                    refine qv_i2l C (by omega) dq_Wrd_roundHead_122 ?_
                    refine qv_bipush C (by decide) dq_Wrd_roundHead_123 ?_
                    refine qv_lshl C q 52 (by omega) (by omega) (by omega) dq_Wrd_roundHead_125 ?_
                    refine qv_lload C rfl dq_Wrd_roundHead_126 ?_
                    refine qv_ladd C (r := (((q * 2 ^ 52 + f) : Nat) : Int)) (by omega) dq_Wrd_roundHead_128 ?_
                    refine qv_iload C rfl dq_Wrd_roundHead_129 ?_
                    refine qv_ifeq C (by omega) (tgt := 138) (by decide) dq_Wrd_roundHead_131 (fun h131 => ?_) (fun h131 => ?_)
                    · skip
                      refine qv_iconst C dq_Wrd_roundHead_138 ?_
                      refine qv_i2l C (by omega) dq_Wrd_roundHead_139 ?_
                      refine qv_ladd C (r := (((q * 2 ^ 52 + f) : Nat) : Int)) (by omega) dq_Wrd_roundHead_140 ?_
                      refine qv_lret C hR ?_ dq_Wrd_roundHead_141 (by decide) (by decide)
                      have em := hmo h80
                      refine ⟨goal _ false (by simp) ⟨fun q => (by cases q), fun q => ?_⟩, rfl⟩
                      exfalso
                      rcases q with ⟨q1, q2 | q2 | q2⟩ <;> first | omega | (rw [em] at q2; cases q2)
                    · exfalso; omega
                  · skip
                    refine qv_iconst C dq_Wrd_roundHead_104 ?_
                    refine qv_goto C (tgt := 114) (by decide) dq_Wrd_roundHead_105 ?_
                    refine qv_istore C (lv' := [(12, vi 1), (11, vi 1), (10, vi 1), (8, vj ((head * 2 ^ b : Nat) : Int)), (6, vj ((f : Nat) : Int)), (5, vi ((b : Nat) : Int)), (4, vi P), (0, vj ((head : Nat) : Int)), (2, vi (b2 more)), (3, vi tb)]) (by decide) rfl dq_Wrd_roundHead_114 ?_
                    refine qv_iload C rfl dq_Wrd_roundHead_116 ?_
                    refine qv_sipush C (by decide) dq_Wrd_roundHead_118 ?_
                    refine qv_isub C (r := ((q : Nat) : Int)) (by omega) dq_Wrd_roundHead_121 ?_
                    refine qv_i2l C (by omega) dq_Wrd_roundHead_122 ?_
                    refine qv_bipush C (by decide) dq_Wrd_roundHead_123 ?_
                    refine qv_lshl C q 52 (by omega) (by omega) (by omega) dq_Wrd_roundHead_125 ?_
                    refine qv_lload C rfl dq_Wrd_roundHead_126 ?_
                    refine qv_ladd C (r := (((q * 2 ^ 52 + f) : Nat) : Int)) (by omega) dq_Wrd_roundHead_128 ?_
                    refine qv_iload C rfl dq_Wrd_roundHead_129 ?_
                    refine qv_ifeq C (by omega) (tgt := 138) (by decide) dq_Wrd_roundHead_131 (fun h131 => ?_) (fun h131 => ?_)
                    · exfalso; omega
                    · skip
                      refine qv_iconst C dq_Wrd_roundHead_134 ?_
                      refine qv_goto C (tgt := 139) (by decide) dq_Wrd_roundHead_135 ?_
                      refine qv_i2l C (by omega) dq_Wrd_roundHead_139 ?_
                      refine qv_ladd C (r := ((((q * 2 ^ 52 + f) + 1) : Nat) : Int)) (by omega) dq_Wrd_roundHead_140 ?_
                      refine qv_lret C hR ?_ dq_Wrd_roundHead_141 (by decide) (by decide)
                      have em := hmo h80
                      refine ⟨goal _ true (by simp) ⟨fun _ => ⟨by omega, ?_⟩, fun _ => rfl⟩, rfl⟩
                      first | exact Or.inl (by omega) | exact Or.inr (Or.inr (by omega))
      · skip
        refine qv_lconst C (z := 0) (by decide) dq_Wrd_roundHead_32 ?_
        refine qv_goto C (tgt := 43) (by decide) dq_Wrd_roundHead_33 ?_
        refine qv_tj (r := ((f : Nat) : Int)) (by
          have e0 : b = 0 := by omega
          rw [hf, e0, Nat.div_eq_of_lt (by rw [Nat.sub_zero]; exact hh2)]; rfl) ?_
        refine qv_lstore C (lv' := [(6, vj ((f : Nat) : Int)), (5, vi ((b : Nat) : Int)), (4, vi P), (0, vj ((head : Nat) : Int)), (2, vi (b2 more)), (3, vi tb)]) (by decide) rfl dq_Wrd_roundHead_43 ?_
        refine qv_lload_n C rfl dq_Wrd_roundHead_45 ?_
        refine qv_iload C rfl dq_Wrd_roundHead_46 ?_
        refine qv_lshl C head b (by omega) (by omega) (by omega) dq_Wrd_roundHead_48 ?_
        refine qv_lstore C (lv' := [(8, vj ((head * 2 ^ b : Nat) : Int)), (6, vj ((f : Nat) : Int)), (5, vi ((b : Nat) : Int)), (4, vi P), (0, vj ((head : Nat) : Int)), (2, vi (b2 more)), (3, vi tb)]) (by decide) rfl dq_Wrd_roundHead_49 ?_
        refine qv_lload C rfl dq_Wrd_roundHead_51 ?_
        refine qv_tjw (r := Y) (by rw [hY]; exact zj_sj _) ?_
        refine qv_lconst C (z := 0) (by decide) dq_Wrd_roundHead_53 ?_
        refine qv_lcge C (by omega) (by omega) dq_Wrd_roundHead_54 (tgt := 62) (by decide) dq_Wrd_roundHead_55 (fun h54 => ?_) (fun h54 => ?_)
        · skip
          refine qv_iconst C dq_Wrd_roundHead_62 ?_
          refine qv_istore C (lv' := [(10, vi 0), (8, vj ((head * 2 ^ b : Nat) : Int)), (6, vj ((f : Nat) : Int)), (5, vi ((b : Nat) : Int)), (4, vi P), (0, vj ((head : Nat) : Int)), (2, vi (b2 more)), (3, vi tb)]) (by decide) rfl dq_Wrd_roundHead_63 ?_
          refine qv_iload C rfl dq_Wrd_roundHead_65 ?_
          refine qv_ifeq C (by omega) (tgt := 87) (by decide) dq_Wrd_roundHead_67 (fun h67 => ?_) (fun h67 => ?_)
          · skip
            refine qv_iconst C dq_Wrd_roundHead_87 ?_
            refine qv_istore C (lv' := [(11, vi 0), (10, vi 0), (8, vj ((head * 2 ^ b : Nat) : Int)), (6, vj ((f : Nat) : Int)), (5, vi ((b : Nat) : Int)), (4, vi P), (0, vj ((head : Nat) : Int)), (2, vi (b2 more)), (3, vi tb)]) (by decide) rfl dq_Wrd_roundHead_88 ?_
            refine qv_iload C rfl dq_Wrd_roundHead_90 ?_
            refine qv_ifeq C (by omega) (tgt := 112) (by decide) dq_Wrd_roundHead_92 (fun h92 => ?_) (fun h92 => ?_)
            · skip
              refine qv_iload C rfl dq_Wrd_roundHead_112 ?_
              refine qv_istore C (lv' := [(12, vi 0), (11, vi 0), (10, vi 0), (8, vj ((head * 2 ^ b : Nat) : Int)), (6, vj ((f : Nat) : Int)), (5, vi ((b : Nat) : Int)), (4, vi P), (0, vj ((head : Nat) : Int)), (2, vi (b2 more)), (3, vi tb)]) (by decide) rfl dq_Wrd_roundHead_114 ?_
              refine qv_iload C rfl dq_Wrd_roundHead_116 ?_
              refine qv_sipush C (by decide) dq_Wrd_roundHead_118 ?_
              refine qv_isub C (r := ((q : Nat) : Int)) (by omega) dq_Wrd_roundHead_121 ?_
              refine qv_i2l C (by omega) dq_Wrd_roundHead_122 ?_
              refine qv_bipush C (by decide) dq_Wrd_roundHead_123 ?_
              refine qv_lshl C q 52 (by omega) (by omega) (by omega) dq_Wrd_roundHead_125 ?_
              refine qv_lload C rfl dq_Wrd_roundHead_126 ?_
              refine qv_ladd C (r := (((q * 2 ^ 52 + f) : Nat) : Int)) (by omega) dq_Wrd_roundHead_128 ?_
              refine qv_iload C rfl dq_Wrd_roundHead_129 ?_
              refine qv_ifeq C (by omega) (tgt := 138) (by decide) dq_Wrd_roundHead_131 (fun h131 => ?_) (fun h131 => ?_)
              · skip
                refine qv_iconst C dq_Wrd_roundHead_138 ?_
                refine qv_i2l C (by omega) dq_Wrd_roundHead_139 ?_
                refine qv_ladd C (r := (((q * 2 ^ 52 + f) : Nat) : Int)) (by omega) dq_Wrd_roundHead_140 ?_
                refine qv_lret C hR ?_ dq_Wrd_roundHead_141 (by decide) (by decide)
                refine ⟨goal _ false (by simp) ⟨fun q => (by cases q), fun q => ?_⟩, rfl⟩
                exfalso
                omega
              · exfalso; omega
            · exfalso; omega
          · exfalso; omega
        · skip
          refine qv_iconst C dq_Wrd_roundHead_58 ?_
          refine qv_goto C (tgt := 63) (by decide) dq_Wrd_roundHead_59 ?_
          refine qv_istore C (lv' := [(10, vi 1), (8, vj ((head * 2 ^ b : Nat) : Int)), (6, vj ((f : Nat) : Int)), (5, vi ((b : Nat) : Int)), (4, vi P), (0, vj ((head : Nat) : Int)), (2, vi (b2 more)), (3, vi tb)]) (by decide) rfl dq_Wrd_roundHead_63 ?_
          refine qv_iload C rfl dq_Wrd_roundHead_65 ?_
          refine qv_ifeq C (by omega) (tgt := 87) (by decide) dq_Wrd_roundHead_67 (fun h67 => ?_) (fun h67 => ?_)
          · exfalso; omega
          · skip
            refine qv_lload C rfl dq_Wrd_roundHead_70 ?_
            refine qv_iconst C dq_Wrd_roundHead_72 ?_
            refine qv_lshl C (head * 2 ^ b) 1 (by omega) (by omega) (by omega) dq_Wrd_roundHead_73 ?_
            refine qv_tjw (r := Y2) (by rw [hY2]; exact zj_sj _) ?_
            refine qv_lconst C (z := 0) (by decide) dq_Wrd_roundHead_74 ?_
            refine qv_lcne C (by omega) (by omega) dq_Wrd_roundHead_75 (tgt := 87) (by decide) dq_Wrd_roundHead_76 (fun h75 => ?_) (fun h75 => ?_)
            · skip
              refine qv_iconst C dq_Wrd_roundHead_87 ?_
              refine qv_istore C (lv' := [(11, vi 0), (10, vi 1), (8, vj ((head * 2 ^ b : Nat) : Int)), (6, vj ((f : Nat) : Int)), (5, vi ((b : Nat) : Int)), (4, vi P), (0, vj ((head : Nat) : Int)), (2, vi (b2 more)), (3, vi tb)]) (by decide) rfl dq_Wrd_roundHead_88 ?_
              refine qv_iload C rfl dq_Wrd_roundHead_90 ?_
              refine qv_ifeq C (by omega) (tgt := 112) (by decide) dq_Wrd_roundHead_92 (fun h92 => ?_) (fun h92 => ?_)
              · skip
                refine qv_iload C rfl dq_Wrd_roundHead_112 ?_
                refine qv_istore C (lv' := [(12, vi 1), (11, vi 0), (10, vi 1), (8, vj ((head * 2 ^ b : Nat) : Int)), (6, vj ((f : Nat) : Int)), (5, vi ((b : Nat) : Int)), (4, vi P), (0, vj ((head : Nat) : Int)), (2, vi (b2 more)), (3, vi tb)]) (by decide) rfl dq_Wrd_roundHead_114 ?_
                refine qv_iload C rfl dq_Wrd_roundHead_116 ?_
                refine qv_sipush C (by decide) dq_Wrd_roundHead_118 ?_
                refine qv_isub C (r := ((q : Nat) : Int)) (by omega) dq_Wrd_roundHead_121 ?_
                refine qv_i2l C (by omega) dq_Wrd_roundHead_122 ?_
                refine qv_bipush C (by decide) dq_Wrd_roundHead_123 ?_
                refine qv_lshl C q 52 (by omega) (by omega) (by omega) dq_Wrd_roundHead_125 ?_
                refine qv_lload C rfl dq_Wrd_roundHead_126 ?_
                refine qv_ladd C (r := (((q * 2 ^ 52 + f) : Nat) : Int)) (by omega) dq_Wrd_roundHead_128 ?_
                refine qv_iload C rfl dq_Wrd_roundHead_129 ?_
                refine qv_ifeq C (by omega) (tgt := 138) (by decide) dq_Wrd_roundHead_131 (fun h131 => ?_) (fun h131 => ?_)
                · exfalso; omega
                · skip
                  refine qv_iconst C dq_Wrd_roundHead_134 ?_
                  refine qv_goto C (tgt := 139) (by decide) dq_Wrd_roundHead_135 ?_
                  refine qv_i2l C (by omega) dq_Wrd_roundHead_139 ?_
                  refine qv_ladd C (r := ((((q * 2 ^ 52 + f) + 1) : Nat) : Int)) (by omega) dq_Wrd_roundHead_140 ?_
                  refine qv_lret C hR ?_ dq_Wrd_roundHead_141 (by decide) (by decide)
                  refine ⟨goal _ true (by simp) ⟨fun _ => ⟨by omega, ?_⟩, fun _ => rfl⟩, rfl⟩
                  first | exact Or.inl (by omega) | exact Or.inr (Or.inr (by omega))
              · exfalso; omega
            · skip
              refine qv_iload_n C rfl dq_Wrd_roundHead_79 ?_
              refine qv_ifne C (rb_b2 more) (tgt := 87) (by decide) dq_Wrd_roundHead_80 (fun h80 => ?_) (fun h80 => ?_)
              · skip
                refine qv_iconst C dq_Wrd_roundHead_87 ?_
                refine qv_istore C (lv' := [(11, vi 0), (10, vi 1), (8, vj ((head * 2 ^ b : Nat) : Int)), (6, vj ((f : Nat) : Int)), (5, vi ((b : Nat) : Int)), (4, vi P), (0, vj ((head : Nat) : Int)), (2, vi (b2 more)), (3, vi tb)]) (by decide) rfl dq_Wrd_roundHead_88 ?_
                refine qv_iload C rfl dq_Wrd_roundHead_90 ?_
                refine qv_ifeq C (by omega) (tgt := 112) (by decide) dq_Wrd_roundHead_92 (fun h92 => ?_) (fun h92 => ?_)
                · skip
                  refine qv_iload C rfl dq_Wrd_roundHead_112 ?_
                  refine qv_istore C (lv' := [(12, vi 1), (11, vi 0), (10, vi 1), (8, vj ((head * 2 ^ b : Nat) : Int)), (6, vj ((f : Nat) : Int)), (5, vi ((b : Nat) : Int)), (4, vi P), (0, vj ((head : Nat) : Int)), (2, vi (b2 more)), (3, vi tb)]) (by decide) rfl dq_Wrd_roundHead_114 ?_
                  refine qv_iload C rfl dq_Wrd_roundHead_116 ?_
                  refine qv_sipush C (by decide) dq_Wrd_roundHead_118 ?_
                  refine qv_isub C (r := ((q : Nat) : Int)) (by omega) dq_Wrd_roundHead_121 ?_
                  refine qv_i2l C (by omega) dq_Wrd_roundHead_122 ?_
                  refine qv_bipush C (by decide) dq_Wrd_roundHead_123 ?_
                  refine qv_lshl C q 52 (by omega) (by omega) (by omega) dq_Wrd_roundHead_125 ?_
                  refine qv_lload C rfl dq_Wrd_roundHead_126 ?_
                  refine qv_ladd C (r := (((q * 2 ^ 52 + f) : Nat) : Int)) (by omega) dq_Wrd_roundHead_128 ?_
                  refine qv_iload C rfl dq_Wrd_roundHead_129 ?_
                  refine qv_ifeq C (by omega) (tgt := 138) (by decide) dq_Wrd_roundHead_131 (fun h131 => ?_) (fun h131 => ?_)
                  · exfalso; omega
                  · skip
                    refine qv_iconst C dq_Wrd_roundHead_134 ?_
                    refine qv_goto C (tgt := 139) (by decide) dq_Wrd_roundHead_135 ?_
                    refine qv_i2l C (by omega) dq_Wrd_roundHead_139 ?_
                    refine qv_ladd C (r := ((((q * 2 ^ 52 + f) + 1) : Nat) : Int)) (by omega) dq_Wrd_roundHead_140 ?_
                    refine qv_lret C hR ?_ dq_Wrd_roundHead_141 (by decide) (by decide)
                    have em := hmo2 h80
                    refine ⟨goal _ true (by simp) ⟨fun _ => ⟨by omega, ?_⟩, fun _ => rfl⟩, rfl⟩
                    exact Or.inr (Or.inl em)
                · exfalso; omega
              · skip
                refine qv_iconst C dq_Wrd_roundHead_83 ?_
                refine qv_goto C (tgt := 88) (by decide) dq_Wrd_roundHead_84 ?_
                refine qv_istore C (lv' := [(11, vi 1), (10, vi 1), (8, vj ((head * 2 ^ b : Nat) : Int)), (6, vj ((f : Nat) : Int)), (5, vi ((b : Nat) : Int)), (4, vi P), (0, vj ((head : Nat) : Int)), (2, vi (b2 more)), (3, vi tb)]) (by decide) rfl dq_Wrd_roundHead_88 ?_
                refine qv_iload C rfl dq_Wrd_roundHead_90 ?_
                refine qv_ifeq C (by omega) (tgt := 112) (by decide) dq_Wrd_roundHead_92 (fun h92 => ?_) (fun h92 => ?_)
                · exfalso; omega
                · skip
                  refine qv_lload C rfl dq_Wrd_roundHead_95 ?_
                  refine qv_lconst C (z := 1) (by decide) dq_Wrd_roundHead_97 ?_
                  refine qv_land C (r := (((f % 2) : Nat) : Int)) (zj_and (a := f) (b := 1) (by omega)) dq_Wrd_roundHead_98 ?_
                  refine qv_lconst C (z := 1) (by decide) dq_Wrd_roundHead_99 ?_
                  refine qv_lcne C (by omega) (by omega) dq_Wrd_roundHead_100 (tgt := 108) (by decide) dq_Wrd_roundHead_101 (fun h100 => ?_) (fun h100 => ?_)
                  · skip
                    refine qv_iconst C dq_Wrd_roundHead_108 ?_
                    refine qv_goto C (tgt := 114) (by decide) dq_Wrd_roundHead_109 ?_
                    refine qv_istore C (lv' := [(12, vi 0), (11, vi 1), (10, vi 1), (8, vj ((head * 2 ^ b : Nat) : Int)), (6, vj ((f : Nat) : Int)), (5, vi ((b : Nat) : Int)), (4, vi P), (0, vj ((head : Nat) : Int)), (2, vi (b2 more)), (3, vi tb)]) (by decide) rfl dq_Wrd_roundHead_114 ?_
                    refine qv_iload C rfl dq_Wrd_roundHead_116 ?_
                    refine qv_sipush C (by decide) dq_Wrd_roundHead_118 ?_
                    refine qv_isub C (r := ((q : Nat) : Int)) (by omega) dq_Wrd_roundHead_121 ?_
                    refine qv_i2l C (by omega) dq_Wrd_roundHead_122 ?_
                    refine qv_bipush C (by decide) dq_Wrd_roundHead_123 ?_
                    refine qv_lshl C q 52 (by omega) (by omega) (by omega) dq_Wrd_roundHead_125 ?_
                    refine qv_lload C rfl dq_Wrd_roundHead_126 ?_
                    refine qv_ladd C (r := (((q * 2 ^ 52 + f) : Nat) : Int)) (by omega) dq_Wrd_roundHead_128 ?_
                    refine qv_iload C rfl dq_Wrd_roundHead_129 ?_
                    refine qv_ifeq C (by omega) (tgt := 138) (by decide) dq_Wrd_roundHead_131 (fun h131 => ?_) (fun h131 => ?_)
                    · skip
                      refine qv_iconst C dq_Wrd_roundHead_138 ?_
                      refine qv_i2l C (by omega) dq_Wrd_roundHead_139 ?_
                      refine qv_ladd C (r := (((q * 2 ^ 52 + f) : Nat) : Int)) (by omega) dq_Wrd_roundHead_140 ?_
                      refine qv_lret C hR ?_ dq_Wrd_roundHead_141 (by decide) (by decide)
                      have em := hmo h80
                      refine ⟨goal _ false (by simp) ⟨fun q => (by cases q), fun q => ?_⟩, rfl⟩
                      exfalso
                      rcases q with ⟨q1, q2 | q2 | q2⟩ <;> first | omega | (rw [em] at q2; cases q2)
                    · exfalso; omega
                  · skip
                    refine qv_iconst C dq_Wrd_roundHead_104 ?_
                    refine qv_goto C (tgt := 114) (by decide) dq_Wrd_roundHead_105 ?_
                    refine qv_istore C (lv' := [(12, vi 1), (11, vi 1), (10, vi 1), (8, vj ((head * 2 ^ b : Nat) : Int)), (6, vj ((f : Nat) : Int)), (5, vi ((b : Nat) : Int)), (4, vi P), (0, vj ((head : Nat) : Int)), (2, vi (b2 more)), (3, vi tb)]) (by decide) rfl dq_Wrd_roundHead_114 ?_
                    refine qv_iload C rfl dq_Wrd_roundHead_116 ?_
                    refine qv_sipush C (by decide) dq_Wrd_roundHead_118 ?_
                    refine qv_isub C (r := ((q : Nat) : Int)) (by omega) dq_Wrd_roundHead_121 ?_
                    refine qv_i2l C (by omega) dq_Wrd_roundHead_122 ?_
                    refine qv_bipush C (by decide) dq_Wrd_roundHead_123 ?_
                    refine qv_lshl C q 52 (by omega) (by omega) (by omega) dq_Wrd_roundHead_125 ?_
                    refine qv_lload C rfl dq_Wrd_roundHead_126 ?_
                    refine qv_ladd C (r := (((q * 2 ^ 52 + f) : Nat) : Int)) (by omega) dq_Wrd_roundHead_128 ?_
                    refine qv_iload C rfl dq_Wrd_roundHead_129 ?_
                    refine qv_ifeq C (by omega) (tgt := 138) (by decide) dq_Wrd_roundHead_131 (fun h131 => ?_) (fun h131 => ?_)
                    · exfalso; omega
                    · skip
                      refine qv_iconst C dq_Wrd_roundHead_134 ?_
                      refine qv_goto C (tgt := 139) (by decide) dq_Wrd_roundHead_135 ?_
                      refine qv_i2l C (by omega) dq_Wrd_roundHead_139 ?_
                      refine qv_ladd C (r := ((((q * 2 ^ 52 + f) + 1) : Nat) : Int)) (by omega) dq_Wrd_roundHead_140 ?_
                      refine qv_lret C hR ?_ dq_Wrd_roundHead_141 (by decide) (by decide)
                      have em := hmo h80
                      refine ⟨goal _ true (by simp) ⟨fun _ => ⟨by omega, ?_⟩, fun _ => rfl⟩, rfl⟩
                      first | exact Or.inl (by omega) | exact Or.inr (Or.inr (by omega))
    · exfalso; omega

theorem hd_or {w0 w1 w2 sh : Nat} (hsh : sh ≤ 31) (h0 : w0 * 2 ^ sh < 4294967296) (h0' : 2147483648 ≤ w0 * 2 ^ sh) (h1 : w1 < 4294967296) (h2 : w2 < 4294967296) : (zj ((w0 * 2 ^ (32 + sh) : Nat) : Int) ||| zj ((w1 * 2 ^ sh : Nat) : Int) = zj ((w0 * 2 ^ (32 + sh) + w1 * 2 ^ sh : Nat) : Int)) ∧ (zj ((w0 * 2 ^ (32 + sh) + w1 * 2 ^ sh : Nat) : Int) ||| zj ((w2 * 2 ^ sh / 2 ^ 32 : Nat) : Int) = zj ((w0 * 2 ^ (32 + sh) + w1 * 2 ^ sh + w2 * 2 ^ sh / 4294967296 : Nat) : Int)) ∧ 9223372036854775808 ≤ w0 * 2 ^ (32 + sh) + w1 * 2 ^ sh + w2 * 2 ^ sh / 4294967296 ∧ w0 * 2 ^ (32 + sh) + w1 * 2 ^ sh + w2 * 2 ^ sh / 4294967296 < 18446744073709551616 ∧ w2 * 2 ^ sh < 18446744073709551616 := by
  have hp : 0 < 2 ^ sh := Nat.pow_pos (by omega)
  have hp31 : 2 ^ sh ≤ 2147483648 := Nat.le_trans (Nat.pow_le_pow_right (by omega) hsh) (by decide)
  have e32 : (2 : Nat) ^ (32 + sh) = 4294967296 * 2 ^ sh := by rw [Nat.pow_add]
  have e1 : w0 * 2 ^ (32 + sh) = w0 * 2 ^ sh * 4294967296 := by rw [e32, Nat.mul_comm 4294967296, Nat.mul_assoc]
  have h1s : w1 * 2 ^ sh < 4294967296 * 2 ^ sh := Nat.mul_lt_mul_of_pos_right h1 hp
  have h1t : w1 * 2 ^ sh ≤ 4294967295 * 2 ^ sh := Nat.mul_le_mul_right _ (by omega)
  have h2s : w2 * 2 ^ sh < 4294967296 * 2 ^ sh := Nat.mul_lt_mul_of_pos_right h2 hp
  have h2d : w2 * 2 ^ sh / 4294967296 < 2 ^ sh := by rw [Nat.div_lt_iff_lt_mul (by omega)]; omega
  have hs : 4294967296 * 2 ^ sh ≤ 9223372036854775808 := by omega
  have hw0 : w0 * 2 ^ sh + 2 ^ sh ≤ 4294967296 := by
    have q : (w0 + 1) * 2 ^ sh ≤ 2 ^ (32 - sh) * 2 ^ sh := by
      refine Nat.mul_le_mul_right _ ?_
      have q2 : w0 * 2 ^ sh < 2 ^ (32 - sh) * 2 ^ sh := by rw [← Nat.pow_add, show 32 - sh + sh = 32 by omega]; exact h0
      exact Nat.lt_of_mul_lt_mul_right q2
    rw [← Nat.pow_add, show 32 - sh + sh = 32 by omega, Nat.add_mul, Nat.one_mul] at q
    exact q
  have hsum : w0 * 2 ^ (32 + sh) + w1 * 2 ^ sh + w2 * 2 ^ sh / 4294967296 < 18446744073709551616 := by rw [e1]; omega
  refine ⟨zj_or (by rw [e32]; exact h1s) (by omega), ?_, by rw [e1]; omega, hsum, by omega⟩
  have e2 : w0 * 2 ^ (32 + sh) + w1 * 2 ^ sh = (w0 * 4294967296 + w1) * 2 ^ sh := by rw [e32, Nat.add_mul, Nat.mul_assoc]
  have e3 : w2 * 2 ^ sh / 2 ^ 32 = w2 * 2 ^ sh / 4294967296 := rfl
  rw [e3, e2]
  exact zj_or h2d (by rw [← e2]; exact hsum)
theorem c_Wrd_roundedSize (cI cJ : ClassId) (w wa : Nat) (hm : Bool) (W : Nat → Nat) (Gn T top F : Nat) (hWl : Wl Gn W hm T top F) : MtJ cI cJ ky_Wrd_roundedSize kb_Wrd_roundedSize 9 rm_Wrd_roundedSize Xt [.ref w] [oc w 2 [.ref wa, vi (b2 hm)], aj cJ wa 70 W] (fun z u => ∃ r : Nat, z = ((r : Nat) : Int) ∧ Nr Gn r ∧ u = ww cJ w wa hm W) := by
  refine MtJ_in (by decide) (Nat.le_of_ble_eq_true rfl) (fun K C hR hX hN => ?_)
  show V K 9 [oc w 2 [.ref wa, vi (b2 hm)], aj cJ wa 70 W] 0 0 0 [(0, .ref w)] []
  have hT67 : T ≤ 67 := hWl.2.2.2.1
  refine qv_aload_n C rfl dq_Wrd_roundedSize_0 ?_
  refine qv_bipush C (by decide) dq_Wrd_roundedSize_1 ?_
  refine qc_vI (wr := []) (st := []) C cl_Wrd_27 cd_Wrd_firstThatIsNotZero (c_Wrd_firstThatIsNotZero cI cJ w wa hm W 67 hWl.1 (by omega)) (Xok_t K) Xbl_t [0, 1] [] rfl rfl (by decide) (by decide) (by decide) 0 rfl rfl rfl rfl rfl (Nat.le_of_ble_eq_true rfl) (by decide) (by decide) dq_Wrd_roundedSize_3 (fun z u hu => ?_)
  obtain ⟨i, rfl, hWf, rfl⟩ := hu
  have hcase := Wl_top hWl hWf
  have hi67 := hWf.1
  show V K 9 [oc w 2 [.ref wa, vi (b2 hm)], aj cJ wa 70 W] 0 0 6 [(0, .ref w)] [vi ((i : Nat) : Int)]
  refine qv_istore_n C (lv' := [(1, vi ((i : Nat) : Int)), (0, .ref w)]) (by decide) rfl dq_Wrd_roundedSize_6 ?_
  refine qv_iload_n C rfl dq_Wrd_roundedSize_7 ?_
  refine qv_bipush C (by decide) dq_Wrd_roundedSize_8 ?_
  refine qv_icne C (by omega) (by omega) (tgt := 15) (by decide) dq_Wrd_roundedSize_10 (fun h10 => ?_) (fun h10 => ?_)
  · skip
    obtain ⟨hi6, htop, htT, hne⟩ := hcase.resolve_left (fun q => by omega)
    subst htop
    refine qv_aload_n C rfl dq_Wrd_roundedSize_15 ?_
    refine qv_get C fl_Wrd_11 0 rfl rfl dq_Wrd_roundedSize_16 ?_
    refine qv_iload_n C rfl dq_Wrd_roundedSize_19 ?_
    refine qv_lald C 1 top rfl (by omega) (by omega) (by omega) dq_Wrd_roundedSize_20 ?_
    refine qc_sI (wr := [oc w 2 [.ref wa, vi (b2 hm)], aj cJ wa 70 W]) (st := []) C cl_Wrd_42 cd_JLon_numberOfLeadingZeros (c_JLon_numberOfLeadingZeros cI cJ (W top) (by omega) (hWl.1 top)) (Xok_t K) Xbl_t [] [0, 1] rfl rfl (by decide) (by decide) (by decide) rfl rfl (Nat.le_of_ble_eq_true rfl) (by decide) (by decide) dq_Wrd_roundedSize_21 (fun z u hu => ?_)
    obtain ⟨sh, rfl, hs0, hs1, hs2, rfl⟩ := hu
    obtain ⟨or1, or2, hh1, hh2, hl2⟩ := hd_or hs0 hs2 hs1 (hWl.1 (top + 1)) (hWl.1 (top + 2))
    show V K 9 [oc w 2 [.ref wa, vi (b2 hm)], aj cJ wa 70 W] 0 0 24 [(1, vi ((top : Nat) : Int)), (0, .ref w)] [vi (((32 + sh) : Nat) : Int)]
    refine qv_bipush C (by decide) dq_Wrd_roundedSize_24 ?_
    refine qv_isub C (r := ((sh : Nat) : Int)) (by omega) dq_Wrd_roundedSize_26 ?_
    refine qv_istore_n C (lv' := [(2, vi ((sh : Nat) : Int)), (1, vi ((top : Nat) : Int)), (0, .ref w)]) (by decide) rfl dq_Wrd_roundedSize_27 ?_
    refine qv_bipush C (by decide) dq_Wrd_roundedSize_28 ?_
    refine qv_iload_n C rfl dq_Wrd_roundedSize_30 ?_
    refine qv_isub C (r := (33 - ((top : Nat) : Int))) rfl dq_Wrd_roundedSize_31 ?_
    refine qv_bipush C (by decide) dq_Wrd_roundedSize_32 ?_
    refine qv_imul C (r := ((33 - ((top : Nat) : Int)) * 32)) rfl dq_Wrd_roundedSize_34 ?_
    refine qv_iconst C dq_Wrd_roundedSize_35 ?_
    refine qv_isub C (r := (((33 - ((top : Nat) : Int)) * 32) - 1)) rfl dq_Wrd_roundedSize_36 ?_
    refine qv_iload_n C rfl dq_Wrd_roundedSize_37 ?_
    refine qv_isub C (r := ((((33 - ((top : Nat) : Int)) * 32) - 1) - ((sh : Nat) : Int))) rfl dq_Wrd_roundedSize_38 ?_
    obtain ⟨tb, htb⟩ : ∃ tb : Int, tb = (33 - (top : Int)) * 32 - 1 - sh := ⟨_, rfl⟩
    refine qv_ti (r := tb) (by omega) ?_
    refine qv_istore_n C (lv' := [(3, vi tb), (2, vi ((sh : Nat) : Int)), (1, vi ((top : Nat) : Int)), (0, .ref w)]) (by decide) rfl dq_Wrd_roundedSize_39 ?_
    refine qv_iload_n C rfl dq_Wrd_roundedSize_40 ?_
    refine qv_sipush C (by decide) dq_Wrd_roundedSize_41 ?_
    refine qv_icle C (by omega) (by omega) (tgt := 51) (by decide) dq_Wrd_roundedSize_44 (fun h44 => ?_) (fun h44 => ?_)
    · skip
      refine qv_aload_n C rfl dq_Wrd_roundedSize_51 ?_
      refine qv_get C fl_Wrd_11 0 rfl rfl dq_Wrd_roundedSize_52 ?_
      refine qv_iload_n C rfl dq_Wrd_roundedSize_55 ?_
      refine qv_iconst C dq_Wrd_roundedSize_56 ?_
      refine qv_iadd C (r := (((top + 2) : Nat) : Int)) (by omega) dq_Wrd_roundedSize_57 ?_
      refine qv_lald C 1 (top + 2) rfl (by omega) (by omega) (by omega) dq_Wrd_roundedSize_58 ?_
      refine qv_iload_n C rfl dq_Wrd_roundedSize_59 ?_
      refine qv_lshl C (W (top + 2)) sh (by omega) (by omega) (by omega) dq_Wrd_roundedSize_60 ?_
      refine qv_lstore C (lv' := [(4, vj (((W (top + 2)) * 2 ^ sh : Nat) : Int)), (3, vi tb), (2, vi ((sh : Nat) : Int)), (1, vi ((top : Nat) : Int)), (0, .ref w)]) (by decide) rfl dq_Wrd_roundedSize_61 ?_
      refine qv_aload_n C rfl dq_Wrd_roundedSize_63 ?_
      refine qv_get C fl_Wrd_11 0 rfl rfl dq_Wrd_roundedSize_64 ?_
      refine qv_iload_n C rfl dq_Wrd_roundedSize_67 ?_
      refine qv_lald C 1 top rfl (by omega) (by omega) (by omega) dq_Wrd_roundedSize_68 ?_
      refine qv_bipush C (by decide) dq_Wrd_roundedSize_69 ?_
      refine qv_iload_n C rfl dq_Wrd_roundedSize_71 ?_
      refine qv_iadd C (r := (((32 + sh) : Nat) : Int)) (by omega) dq_Wrd_roundedSize_72 ?_
      refine qv_lshl C (W top) (32 + sh) (by omega) (by omega) (by omega) dq_Wrd_roundedSize_73 ?_
      refine qv_aload_n C rfl dq_Wrd_roundedSize_74 ?_
      refine qv_get C fl_Wrd_11 0 rfl rfl dq_Wrd_roundedSize_75 ?_
      refine qv_iload_n C rfl dq_Wrd_roundedSize_78 ?_
      refine qv_iconst C dq_Wrd_roundedSize_79 ?_
      refine qv_iadd C (r := (((top + 1) : Nat) : Int)) (by omega) dq_Wrd_roundedSize_80 ?_
      refine qv_lald C 1 (top + 1) rfl (by omega) (by omega) (by omega) dq_Wrd_roundedSize_81 ?_
      refine qv_iload_n C rfl dq_Wrd_roundedSize_82 ?_
      refine qv_lshl C (W (top + 1)) sh (by omega) (by omega) (by omega) dq_Wrd_roundedSize_83 ?_
      refine qv_lor C (r := (((W top * 2 ^ (32 + sh) + W (top + 1) * 2 ^ sh) : Nat) : Int)) or1 dq_Wrd_roundedSize_84 ?_
      refine qv_lload C rfl dq_Wrd_roundedSize_85 ?_
      refine qv_bipush C (by decide) dq_Wrd_roundedSize_87 ?_
      refine qv_lushr C ((W (top + 2)) * 2 ^ sh) 32 (by omega) (by omega) (by omega) (by omega) dq_Wrd_roundedSize_89 ?_
      refine qv_lor C (r := (((W top * 2 ^ (32 + sh) + W (top + 1) * 2 ^ sh + W (top + 2) * 2 ^ sh / 4294967296) : Nat) : Int)) or2 dq_Wrd_roundedSize_90 ?_
      refine qv_lstore C (lv' := [(6, vj (((W top * 2 ^ (32 + sh) + W (top + 1) * 2 ^ sh + W (top + 2) * 2 ^ sh / 4294967296) : Nat) : Int)), (4, vj (((W (top + 2)) * 2 ^ sh : Nat) : Int)), (3, vi tb), (2, vi ((sh : Nat) : Int)), (1, vi ((top : Nat) : Int)), (0, .ref w)]) (by decide) rfl dq_Wrd_roundedSize_91 ?_
      refine qv_lload C rfl dq_Wrd_roundedSize_93 ?_
      refine qv_l2i C dq_Wrd_roundedSize_95 ?_
      refine qv_ifneW C (W (top + 2) * 2 ^ sh) (tgt := 109) (by decide) dq_Wrd_roundedSize_96 (fun h96 => ?_) (fun h96 => ?_)
      · skip
        refine qv_iconst C dq_Wrd_roundedSize_109 ?_
        refine qv_goto C (tgt := 114) (by decide) dq_Wrd_roundedSize_110 ?_
        refine qv_istore C (lv' := [(8, vi 1), (6, vj (((W top * 2 ^ (32 + sh) + W (top + 1) * 2 ^ sh + W (top + 2) * 2 ^ sh / 4294967296) : Nat) : Int)), (4, vj (((W (top + 2)) * 2 ^ sh : Nat) : Int)), (3, vi tb), (2, vi ((sh : Nat) : Int)), (1, vi ((top : Nat) : Int)), (0, .ref w)]) (by decide) rfl dq_Wrd_roundedSize_114 ?_
        refine qv_lload C rfl dq_Wrd_roundedSize_116 ?_
        refine qv_iload C rfl dq_Wrd_roundedSize_118 ?_
        refine qv_iload_n C rfl dq_Wrd_roundedSize_120 ?_
        refine qc_sJ (wr := [oc w 2 [.ref wa, vi (b2 hm)], aj cJ wa 70 W]) (st := []) C cl_Wrd_54 cd_Wrd_roundHead (c_Wrd_roundHead cI cJ (W top * 2 ^ (32 + sh) + W (top + 1) * 2 ^ sh + W (top + 2) * 2 ^ sh / 4294967296) true tb hh1 hh2 (by omega) (by omega)) (Xok_t K) Xbl_t [] [0, 1] rfl rfl (by decide) (by decide) (by decide) rfl rfl (Nat.le_of_ble_eq_true rfl) (by decide) (by decide) dq_Wrd_roundedSize_121 (fun z u hu => ?_)
        obtain ⟨hRh, rfl⟩ := hu
        show V K 9 [oc w 2 [.ref wa, vi (b2 hm)], aj cJ wa 70 W] 0 0 124 [(8, vi 1), (6, vj (((W top * 2 ^ (32 + sh) + W (top + 1) * 2 ^ sh + W (top + 2) * 2 ^ sh / 4294967296) : Nat) : Int)), (4, vj (((W (top + 2)) * 2 ^ sh : Nat) : Int)), (3, vi tb), (2, vi ((sh : Nat) : Int)), (1, vi ((top : Nat) : Int)), (0, .ref w)] [vj z]
        refine qv_lret C hR ?_ dq_Wrd_roundedSize_124 (by decide) (by decide)
        obtain ⟨r, rfl, hr⟩ := rs_near hWl htT hs0 hs1 hs2 rfl hh1 hh2 ⟨fun _ => Or.inl h96, fun _ => rfl⟩ htb (by omega) hRh
        exact ⟨r, rfl, hr, rfl⟩
      · skip
        refine qv_aload_n C rfl dq_Wrd_roundedSize_99 ?_
        refine qv_iload_n C rfl dq_Wrd_roundedSize_100 ?_
        refine qv_iconst C dq_Wrd_roundedSize_101 ?_
        refine qv_iadd C (r := (((top + 3) : Nat) : Int)) (by omega) dq_Wrd_roundedSize_102 ?_
        refine qc_vI (wr := []) (st := []) C cl_Wrd_50 cd_Wrd_isMoreFrom (c_Wrd_isMoreFrom cI cJ w wa hm W (top + 3) hWl.1 (by omega)) (Xok_t K) Xbl_t [0, 1] [] rfl rfl (by decide) (by decide) (by decide) 0 rfl rfl rfl rfl rfl (Nat.le_of_ble_eq_true rfl) (by decide) (by decide) dq_Wrd_roundedSize_103 (fun z u hu => ?_)
        obtain ⟨mo2, rfl, hmo2, rfl⟩ := hu
        show V K 9 [oc w 2 [.ref wa, vi (b2 hm)], aj cJ wa 70 W] 0 0 106 [(6, vj (((W top * 2 ^ (32 + sh) + W (top + 1) * 2 ^ sh + W (top + 2) * 2 ^ sh / 4294967296) : Nat) : Int)), (4, vj (((W (top + 2)) * 2 ^ sh : Nat) : Int)), (3, vi tb), (2, vi ((sh : Nat) : Int)), (1, vi ((top : Nat) : Int)), (0, .ref w)] [vi (b2 mo2)]
        refine qv_ifeq C (rb_b2 mo2) (tgt := 113) (by decide) dq_Wrd_roundedSize_106 (fun h106 => ?_) (fun h106 => ?_)
        · skip
          refine qv_iconst C dq_Wrd_roundedSize_113 ?_
          refine qv_istore C (lv' := [(8, vi 0), (6, vj (((W top * 2 ^ (32 + sh) + W (top + 1) * 2 ^ sh + W (top + 2) * 2 ^ sh / 4294967296) : Nat) : Int)), (4, vj (((W (top + 2)) * 2 ^ sh : Nat) : Int)), (3, vi tb), (2, vi ((sh : Nat) : Int)), (1, vi ((top : Nat) : Int)), (0, .ref w)]) (by decide) rfl dq_Wrd_roundedSize_114 ?_
          refine qv_lload C rfl dq_Wrd_roundedSize_116 ?_
          refine qv_iload C rfl dq_Wrd_roundedSize_118 ?_
          refine qv_iload_n C rfl dq_Wrd_roundedSize_120 ?_
          refine qc_sJ (wr := [oc w 2 [.ref wa, vi (b2 hm)], aj cJ wa 70 W]) (st := []) C cl_Wrd_54 cd_Wrd_roundHead (c_Wrd_roundHead cI cJ (W top * 2 ^ (32 + sh) + W (top + 1) * 2 ^ sh + W (top + 2) * 2 ^ sh / 4294967296) false tb hh1 hh2 (by omega) (by omega)) (Xok_t K) Xbl_t [] [0, 1] rfl rfl (by decide) (by decide) (by decide) rfl rfl (Nat.le_of_ble_eq_true rfl) (by decide) (by decide) dq_Wrd_roundedSize_121 (fun z u hu => ?_)
          obtain ⟨hRh, rfl⟩ := hu
          show V K 9 [oc w 2 [.ref wa, vi (b2 hm)], aj cJ wa 70 W] 0 0 124 [(8, vi 0), (6, vj (((W top * 2 ^ (32 + sh) + W (top + 1) * 2 ^ sh + W (top + 2) * 2 ^ sh / 4294967296) : Nat) : Int)), (4, vj (((W (top + 2)) * 2 ^ sh : Nat) : Int)), (3, vi tb), (2, vi ((sh : Nat) : Int)), (1, vi ((top : Nat) : Int)), (0, .ref w)] [vj z]
          refine qv_lret C hR ?_ dq_Wrd_roundedSize_124 (by decide) (by decide)
          have em := b2_f h106
          obtain ⟨r, rfl, hr⟩ := rs_near hWl htT hs0 hs1 hs2 rfl hh1 hh2 ⟨fun q => (by cases q), fun q => (by
            exfalso
            rcases q with q | q
            · exact q h96
            · rw [hmo2.mpr q] at em; cases em)⟩ htb (by omega) hRh
          exact ⟨r, rfl, hr, rfl⟩
        · skip
          refine qv_iconst C dq_Wrd_roundedSize_109 ?_
          refine qv_goto C (tgt := 114) (by decide) dq_Wrd_roundedSize_110 ?_
          refine qv_istore C (lv' := [(8, vi 1), (6, vj (((W top * 2 ^ (32 + sh) + W (top + 1) * 2 ^ sh + W (top + 2) * 2 ^ sh / 4294967296) : Nat) : Int)), (4, vj (((W (top + 2)) * 2 ^ sh : Nat) : Int)), (3, vi tb), (2, vi ((sh : Nat) : Int)), (1, vi ((top : Nat) : Int)), (0, .ref w)]) (by decide) rfl dq_Wrd_roundedSize_114 ?_
          refine qv_lload C rfl dq_Wrd_roundedSize_116 ?_
          refine qv_iload C rfl dq_Wrd_roundedSize_118 ?_
          refine qv_iload_n C rfl dq_Wrd_roundedSize_120 ?_
          refine qc_sJ (wr := [oc w 2 [.ref wa, vi (b2 hm)], aj cJ wa 70 W]) (st := []) C cl_Wrd_54 cd_Wrd_roundHead (c_Wrd_roundHead cI cJ (W top * 2 ^ (32 + sh) + W (top + 1) * 2 ^ sh + W (top + 2) * 2 ^ sh / 4294967296) true tb hh1 hh2 (by omega) (by omega)) (Xok_t K) Xbl_t [] [0, 1] rfl rfl (by decide) (by decide) (by decide) rfl rfl (Nat.le_of_ble_eq_true rfl) (by decide) (by decide) dq_Wrd_roundedSize_121 (fun z u hu => ?_)
          obtain ⟨hRh, rfl⟩ := hu
          show V K 9 [oc w 2 [.ref wa, vi (b2 hm)], aj cJ wa 70 W] 0 0 124 [(8, vi 1), (6, vj (((W top * 2 ^ (32 + sh) + W (top + 1) * 2 ^ sh + W (top + 2) * 2 ^ sh / 4294967296) : Nat) : Int)), (4, vj (((W (top + 2)) * 2 ^ sh : Nat) : Int)), (3, vi tb), (2, vi ((sh : Nat) : Int)), (1, vi ((top : Nat) : Int)), (0, .ref w)] [vj z]
          refine qv_lret C hR ?_ dq_Wrd_roundedSize_124 (by decide) (by decide)
          have em := b2_t h106
          obtain ⟨r, rfl, hr⟩ := rs_near hWl htT hs0 hs1 hs2 rfl hh1 hh2 ⟨fun _ => Or.inr (hmo2.mp em), fun _ => rfl⟩ htb (by omega) hRh
          exact ⟨r, rfl, hr, rfl⟩
    · skip
      refine qv_ldc2 C (z := 9218868437227405312) wk_Wrd_48 dq_Wrd_roundedSize_47 ?_
      refine qv_lret C hR ?_ dq_Wrd_roundedSize_50 (by decide) (by decide)
      have e0 : top = 0 := by omega
      subst e0
      exact ⟨INF, by decide, Wl_big hWl hne, rfl⟩
  · skip
    refine qv_lconst C (z := 0) (by decide) dq_Wrd_roundedSize_13 ?_
    refine qv_lret C hR ?_ dq_Wrd_roundedSize_14 (by decide) (by decide)
    rcases hcase with ⟨a, hz⟩ | ⟨a, -⟩
    · exact ⟨0, rfl, Wl_zero hWl hz, rfl⟩
    · exfalso; omega
end
section
/-! one scale for both sides; the static row of units -/
theorem near_scale {X U r k : Nat} (hk : 0 < k) (h : Near X U r) : Near (X * k) (U * k) r := by
  have e : ∀ c, c * (U * k) = c * U * k := fun c => (Nat.mul_assoc _ _ _).symm
  obtain ⟨h1, h2⟩ := h
  refine ⟨?_, ?_⟩
  · rw [e]
    rcases h1 with h1 | ⟨h1, h3⟩
    · exact Or.inl (Nat.mul_lt_mul_of_pos_right h1 hk)
    · exact Or.inr ⟨by rw [h1], h3⟩
  · rw [e]
    rcases h2 with h2 | h2 | ⟨h2, h3⟩
    · exact Or.inl h2
    · exact Or.inr (Or.inl (Nat.mul_lt_mul_of_pos_right h2 hk))
    · exact Or.inr (Or.inr ⟨by rw [h2], h3⟩)
def Ns (G r : Nat) : Prop := (r < INF ∧ Near (G * 2 ^ 1075) (10 ^ 1200) r) ∨ (r = INF ∧ md (INF - 1) * 10 ^ 1200 ≤ G * 2 ^ 1075)
theorem Ns_of {G r : Nat} (h : Nr G r) : Ns (G * 10 ^ 75) r := by
  have hk : 0 < 10 ^ 75 := Nat.pow_pos (by omega)
  have e : (10 : Nat) ^ 1200 = 10 ^ 1125 * 10 ^ 75 := by rw [← Nat.pow_add]
  rcases h with ⟨h1, h2⟩ | ⟨h1, h2⟩
  · refine Or.inl ⟨h1, ?_⟩
    rw [e, Nat.mul_right_comm]
    exact near_scale hk h2
  · refine Or.inr ⟨h1, ?_⟩
    rw [e, Nat.mul_right_comm G, ← Nat.mul_assoc]
    exact Nat.mul_le_mul_right _ h2
theorem Ns_one {G r t : Nat} (h1 : Ns G r) (h2 : Ns G t) : r = t := by
  have hU : 0 < 10 ^ 1200 := Nat.pow_pos (by omega)
  have e1 : INF - 1 = 9218868437227405311 := by decide +kernel
  have e2 : INF = 9218868437227405312 := rfl
  rcases h1 with ⟨a1, a2⟩ | ⟨a1, a2⟩
  · rcases h2 with ⟨b1, b2⟩ | ⟨b1, b2⟩
    · exact near_one hU a2 b2
    · rw [e1] at b2
      have := (near_inf hU a2).mpr b2
      omega
  · rcases h2 with ⟨b1, b2⟩ | ⟨b1, b2⟩
    · rw [e1] at a2
      have := (near_inf hU b2).mpr a2
      omega
    · rw [a1, b1]
def Ne (f : Nat → Nat) (len : Nat) (pl : Int) (r : Nat) : Prop := (len = 0 ∧ r = 0) ∨ (0 < len ∧ pl < -330 ∧ r = 0) ∨ (0 < len ∧ 310 < pl ∧ r = INF) ∨ (0 < len ∧ -330 ≤ pl ∧ pl ≤ 310 ∧ Ns (sv 1200 f len pl) r)
theorem Ne_one {f g : Nat → Nat} {len : Nat} {pl : Int} {r t : Nat} (hfg : ∀ i, i < len → f i = g i) (h1 : Ne f len pl r) (h2 : Ne g len pl t) : r = t := by
  have e := sv_eq (K := 1200) (p := pl) hfg
  rcases h1 with h1 | h1 | h1 | ⟨a, b, c, h1⟩ <;> rcases h2 with h2 | h2 | h2 | ⟨a', b', c', h2⟩ <;> try omega
  rw [e] at h1
  exact Ns_one h1 h2
theorem small_324 : 10 ^ 876 * 2 ^ 1075 < 10 ^ 1200 := by decide +kernel
theorem big_309 : 2 ^ 1024 * 10 ^ 1200 ≤ 10 ^ 1509 := by decide +kernel
theorem Ns_low {f : Nat → Nat} {len : Nat} {pl : Int} (hN : Nrm f len) (hp : (len : Int) ≤ pl + 1200) (h : pl ≤ -324) : Ns (sv 1200 f len pl) 0 := by
  refine Or.inl ⟨by decide, ?_⟩
  have e : md 0 = 1 := by decide
  refine ⟨Or.inl ?_, Or.inl rfl⟩
  rw [e, Nat.one_mul]
  have h1 := sv_hi (K := 1200) hN hp
  have h2 : sv 1200 f len pl ≤ 10 ^ 876 := Nat.le_trans (Nat.le_of_lt h1) (Nat.pow_le_pow_right (by omega) (by omega))
  exact Nat.lt_of_le_of_lt (Nat.mul_le_mul_right _ h2) small_324
theorem Ns_high {f : Nat → Nat} {len : Nat} {pl : Int} (hN : Nrm f len) (h0 : 0 < len) (hp : (len : Int) ≤ pl + 1200) (h : 310 ≤ pl) : Ns (sv 1200 f len pl) INF := by
  refine Or.inr ⟨rfl, ?_⟩
  have h1 := sv_lo (K := 1200) hN h0 hp
  have h2 : 10 ^ 1509 ≤ sv 1200 f len pl := Nat.le_trans (Nat.pow_le_pow_right (by omega) (by omega)) h1
  calc md (INF - 1) * 10 ^ 1200 ≤ 2 ^ 1024 * 2 ^ 1075 * 10 ^ 1200 := Nat.mul_le_mul_right _ md_inf
    _ = 2 ^ 1024 * 10 ^ 1200 * 2 ^ 1075 := Nat.mul_right_comm _ _ _
    _ ≤ 10 ^ 1509 * 2 ^ 1075 := Nat.mul_le_mul_right _ big_309
    _ ≤ _ := Nat.mul_le_mul_right _ h2
theorem sv_75 {f : Nat → Nat} {len : Nat} {pl : Int} (hp : (len : Int) ≤ pl + 1125) : sv 1200 f len pl = sv 1125 f len pl * 10 ^ 75 := by
  unfold sv
  rw [Nat.mul_assoc, ← Nat.pow_add]
  congr 2; omega
theorem int_309 {R : Nat → Nat} {f : Nat → Nat} {len : Nat} {pl : Int} (hR : ∀ i, R i < 1000000000) (hN : Nrm f len) (hp : (len : Int) ≤ pl + 1125) (h : pl ≤ 309) (hv : dv 1000000000 R 160 = sv 1125 f len pl) : dv 1000000000 R 35 < 4294967296 ^ 33 := by
  have h1 := sv_hi (K := 1125) hN hp
  rw [← hv] at h1
  have h2 := dv_ts 1000000000 R 35 125
  rw [show 35 + 125 = 160 by omega, B_125] at h2
  have h3 : (10 : Nat) ^ (pl + 1125).toNat ≤ 10 ^ 309 * 10 ^ 1125 := by
    rw [← Nat.pow_add]; exact Nat.pow_le_pow_right (by omega) (by omega)
  have h4 : dv 1000000000 R 35 * 10 ^ 1125 < 10 ^ 309 * 10 ^ 1125 := by
    have h6 : dv 1000000000 R 35 * 10 ^ 1125 ≤ dv 1000000000 R 160 := by rw [h2]; exact Nat.le_add_right _ _
    exact Nat.lt_of_le_of_lt h6 (Nat.lt_of_lt_of_le h1 h3)
  have h5 : dv 1000000000 R 35 < 10 ^ 309 := Nat.lt_of_mul_lt_mul_right h4
  exact Nat.lt_trans h5 (by decide +kernel)
/-- the static row: powers of ten -/
def XU : (Nat → Prop) → State → Prop := fun A U => ∃ t : Nat, va_Z "DecimalTruth$Groups" "UNITS" "[J" (.ref t) A U U.heap ∧ va_T .long t 9 (fun j => .long (zj ((10 ^ (8 - j) : Nat) : Int))) A U U.heap
theorem XU_bl : Xbl XU := by
  intro A U g mk a h
  obtain ⟨t, h1, h2⟩ := h
  exact ⟨t, va_Z.moved (u := U) (U := U.calling g mk a) (Vm.Alike.refl U.vm) h1, va_T.moved (u := U) (U := U.calling g mk a) (Vm.Alike.refl U.vm) h2⟩
theorem XU_ok {K : Kx} (h : Xk K XU) : Xok K XU := by
  obtain ⟨p, l, e, R, s, m, args, below, meth, c, D, A, Q⟩ := K
  obtain ⟨t, h1, h2⟩ := h
  intro H locs B U hS hB hU hW
  refine ⟨t, ?_, ?_⟩
  · rw [hU]
    exact va_Z.moved hW.alike ((va_Z.kept h1 hS.2.1).narrow hB)
  · rw [hU]
    exact va_T.moved hW.alike ((va_T.kept h2 hS.2.1).narrow hB)
section UnitRules
variable {K : Kx} {cI cJ : ClassId} {cc : ByteArray} {nL : Nat} {own : String} {rm : Room} {ws : va_W} {k n pc : Nat} {lv : List (Nat × Value)} {st : List Value}
theorem qv_units (C : Cx K cI cJ cc nL own rm) {ix : Nat} (hX : Xk K XU) (hlk : Cond.fieldLink own ix "DecimalTruth$Groups" "UNITS" "[J" ∈ al) (d : decode cc pc = .ok (.getstatic ix, 3))
    (h : ∀ t : Nat, (∀ {pc' k' n' : Nat} {lv' : List (Nat × Value)} {st' : List Value} {ws' : va_W} {z : Int} (i : Nat), z = (i : Int) → i < 9 → decode cc pc' = .ok (.laload, 1) → V K nL ws' k' n' (pc' + 1) lv' (vj ((10 ^ (8 - i) : Nat) : Int) :: st') → V K nL ws' k' n' pc' lv' (vi z :: .ref t :: st')) → V K nL ws k n (pc + 3) lv (.ref t :: st)) : V K nL ws k n pc lv st := by
  obtain ⟨p, l, e, R, s, m, args, below, meth, c, D, A, Q⟩ := K
  obtain ⟨hx, hb, hml, hown, hts, hK, hA, hR, hnw⟩ := C
  obtain ⟨t, h1, h2⟩ := hX
  intro H locs ls hP hD hS hl
  refine va_gets hx hb h1 hS hown (hts _ hlk) (fun _ h => h) d (h t ?_ H locs ls hP hD hS hl)
  intro pc' k' n' lv' st' ws' z i hz hi d2 h3 H2 locs2 ls2 hP2 hD2 hS2 hl2
  subst hz
  refine va_tl hx hb h2 hS2 (zi_in hi (by omega)) rfl d2 ?_
  rw [zi_nat (by omega)]
  exact h3 H2 locs2 ls2 hP2 hD2 hS2 hl2
end UnitRules
theorem wu_units : Cond.fieldLink RG 55 "DecimalTruth$Groups" "UNITS" "[J" ∈ al := by
  have h : (tables_1.any (fun w => decide (w = Cond.fieldLink "DecimalTruth$Groups" 55 "DecimalTruth$Groups" "UNITS" "[J"))) = true := by decide +kernel
  obtain ⟨w, h1, h2⟩ := List.any_eq_true.mp h
  rw [decide_eq_true_iff] at h2
  subst h2
  exact List.mem_filter.mpr ⟨List.mem_append_right _ h1, rfl⟩
end
section
theorem c_Grp_load (cI cJ : ClassId) (g b fi en : Nat) (R : Nat → Nat) (k ka len : Nat) (pl : Int) (f : Nat → Nat) (hf : ∀ i, f i ≤ 9) (h0 : 0 < len) (hlast : f (len - 1) ≠ 0) (hl : len ≤ 800) (hp1 : -323 ≤ pl) (hp2 : pl ≤ 309) : MtV cI cJ ky_Grp_load kb_Grp_load 5 rm_Grp_load XU [.ref g, .ref k] [oc g 1 [.ref b, vi ((fi : Nat) : Int), vi ((en : Nat) : Int)], aj cJ b 160 R, oc k 0 [.ref ka, vi ((len : Nat) : Int), vi pl], ai cI ka 800 f] (fun u => ∃ (R2 : Nat → Nat) (fi2 en2 : Nat), u = gw cJ g b fi2 en2 R2 ++ dw cI k ka len pl f ∧ Gd R2 fi2 en2 ∧ LN R2 en2 ∧ dv 1000000000 R2 160 = sv 1125 f len pl) := by
  refine MtV_in (by decide) (Nat.le_of_ble_eq_true rfl) (fun K C hR hX hN => ?_)
  show V K 5 [oc g 1 [.ref b, vi ((fi : Nat) : Int), vi ((en : Nat) : Int)], aj cJ b 160 R, oc k 0 [.ref ka, vi ((len : Nat) : Int), vi pl], ai cI ka 800 f] 0 0 0 [(0, .ref g), (1, .ref k)] []
  obtain ⟨s, hs⟩ : ∃ s : Nat, 315 - pl = (s : Int) := ⟨(315 - pl).toNat, by omega⟩
  have hst : (315 - pl).toNat = s := by omega
  have loop : ∀ n i (R2 : Nat → Nat), i + n = len → Gl f s i R2 → V K 5 [oc g 1 [.ref b, vi ((fi : Nat) : Int), vi ((en : Nat) : Int)], aj cJ b 160 R2, oc k 0 [.ref ka, vi ((len : Nat) : Int), vi pl], ai cI ka 800 f] 0 0 19 [(0, .ref g), (1, .ref k), (2, vi ((s : Nat) : Int)), (3, vi ((i : Nat) : Int))] [] := by
    intro n
    induction n with
    | zero =>
      intro i R2 hin hG
      have ei : i = len := by omega
      subst ei
      refine qv_iload_n C rfl dq_Grp_load_19 ?_
      refine qv_aload_n C rfl dq_Grp_load_20 ?_
      refine qv_get C fl_Grp_48 2 rfl rfl dq_Grp_load_21 ?_
      refine qv_icge C (by omega) (by omega) (tgt := 68) (by decide) dq_Grp_load_24 (fun h24 => ?_) (fun h24 => ?_)
      · skip
        refine qv_aload_n C rfl dq_Grp_load_68 ?_
        refine qv_iload_n C rfl dq_Grp_load_69 ?_
        refine qv_bipush C (by decide) dq_Grp_load_70 ?_
        refine qv_idiv C (r := (((s / 9) : Nat) : Int)) (by omega) (by omega) (by omega) (by omega) (by omega) dq_Grp_load_72 ?_
        refine qv_put C (ws' := [oc g 1 [.ref b, vi (((s / 9) : Nat) : Int), vi ((en : Nat) : Int)], aj cJ b 160 R2, oc k 0 [.ref ka, vi ((i : Nat) : Int), vi pl], ai cI ka 800 f]) fl_Grp_15 fs_1_1 0 rfl rfl rfl (Nat.le_of_ble_eq_true rfl) rfl dq_Grp_load_73 ?_
        refine qv_aload_n C rfl dq_Grp_load_76 ?_
        refine qv_iload_n C rfl dq_Grp_load_77 ?_
        refine qv_aload_n C rfl dq_Grp_load_78 ?_
        refine qv_get C fl_Grp_48 2 rfl rfl dq_Grp_load_79 ?_
        refine qv_iadd C (r := (((s + i) : Nat) : Int)) (by omega) dq_Grp_load_82 ?_
        refine qv_iconst C dq_Grp_load_83 ?_
        refine qv_isub C (r := ((((s + i) - 1) : Nat) : Int)) (by omega) dq_Grp_load_84 ?_
        refine qv_bipush C (by decide) dq_Grp_load_85 ?_
        refine qv_idiv C (r := (((((s + i) - 1) / 9) : Nat) : Int)) (by omega) (by omega) (by omega) (by omega) (by omega) dq_Grp_load_87 ?_
        refine qv_iconst C dq_Grp_load_88 ?_
        refine qv_iadd C (r := ((((((s + i) - 1) / 9) + 1) : Nat) : Int)) (by omega) dq_Grp_load_89 ?_
        refine qv_put C (ws' := [oc g 1 [.ref b, vi (((s / 9) : Nat) : Int), vi ((((((s + i) - 1) / 9) + 1) : Nat) : Int)], aj cJ b 160 R2, oc k 0 [.ref ka, vi ((i : Nat) : Int), vi pl], ai cI ka 800 f]) fl_Grp_19 fs_1_2 0 rfl rfl rfl (Nat.le_of_ble_eq_true rfl) rfl dq_Grp_load_90 ?_
        refine qv_vret C hR ?_ dq_Grp_load_93 (by decide) (by decide)
        exact ⟨R2, _, _, rfl, Gl_Gd hf hG h0 (by omega), Gl_LN hG h0 hlast, Gl_v (by rw [hst]; exact hG) (by omega) (by omega)⟩
      · exfalso; omega
    | succ n ih =>
      intro i R2 hin hG
      have h9 := hf i
      refine qv_iload_n C rfl dq_Grp_load_19 ?_
      refine qv_aload_n C rfl dq_Grp_load_20 ?_
      refine qv_get C fl_Grp_48 2 rfl rfl dq_Grp_load_21 ?_
      refine qv_icge C (by omega) (by omega) (tgt := 68) (by decide) dq_Grp_load_24 (fun h24 => ?_) (fun h24 => ?_)
      · exfalso; omega
      · skip
        refine qv_iload_n C rfl dq_Grp_load_27 ?_
        refine qv_iload_n C rfl dq_Grp_load_28 ?_
        refine qv_iadd C (r := (((s + i) : Nat) : Int)) (by omega) dq_Grp_load_29 ?_
        refine qv_istore C (lv' := [(4, vi (((s + i) : Nat) : Int)), (0, .ref g), (1, .ref k), (2, vi ((s : Nat) : Int)), (3, vi ((i : Nat) : Int))]) (by decide) rfl dq_Grp_load_30 ?_
        refine qv_aload_n C rfl dq_Grp_load_32 ?_
        refine qv_get C fl_Grp_11 0 rfl rfl dq_Grp_load_33 ?_
        refine qv_iload C rfl dq_Grp_load_36 ?_
        refine qv_bipush C (by decide) dq_Grp_load_38 ?_
        refine qv_idiv C (r := ((((s + i) / 9) : Nat) : Int)) (by omega) (by omega) (by omega) (by omega) (by omega) dq_Grp_load_40 ?_
        refine qv_dup2 C rfl rfl dq_Grp_load_41 ?_
        refine qv_lald C 1 ((s + i) / 9) rfl (by omega) (by omega) (by omega) dq_Grp_load_42 ?_
        refine qv_aload_n C rfl dq_Grp_load_43 ?_
        refine qv_get C fl_Grp_51 2 rfl rfl dq_Grp_load_44 ?_
        refine qv_iload_n C rfl dq_Grp_load_47 ?_
        refine qv_iald C 3 i rfl (by omega) (by omega) (by omega) dq_Grp_load_48 ?_
        refine qv_i2l C (by omega) dq_Grp_load_49 ?_
        refine qv_units C hX wu_units dq_Grp_load_50 (fun ut hut => ?_)
        refine qv_iload C rfl dq_Grp_load_53 ?_
        refine qv_bipush C (by decide) dq_Grp_load_55 ?_
        refine qv_irem C (r := ((((s + i) % 9) : Nat) : Int)) (by omega) (by omega) (by omega) (by omega) (by omega) dq_Grp_load_57 ?_
        refine hut ((s + i) % 9) (by omega) (by omega) dq_Grp_load_58 ?_
        refine qv_lmul C (r := (((f i * 10 ^ (8 - ((s + i) % 9))) : Nat) : Int)) (Int.natCast_mul _ _).symm dq_Grp_load_59 ?_
        refine qv_ladd C (r := (((R2 ((s + i) / 9) + (f i * 10 ^ (8 - ((s + i) % 9)))) : Nat) : Int)) (Int.natCast_add _ _).symm dq_Grp_load_60 ?_
        refine qv_last C (ws' := [oc g 1 [.ref b, vi ((fi : Nat) : Int), vi ((en : Nat) : Int)], aj cJ b 160 (un R2 ((s + i) / 9) (R2 ((s + i) / 9) + (f i * 10 ^ (8 - ((s + i) % 9))))), oc k 0 [.ref ka, vi ((len : Nat) : Int), vi pl], ai cI ka 800 f]) 1 ((s + i) / 9) (R2 ((s + i) / 9) + (f i * 10 ^ (8 - ((s + i) % 9)))) rfl (by omega) (by omega) (by omega) rfl rfl dq_Grp_load_61 ?_
        refine qv_iinc C (j := 4) (lv' := [(3, vi (((i + 1) : Nat) : Int)), (4, vi (((s + i) : Nat) : Int)), (0, .ref g), (1, .ref k), (2, vi ((s : Nat) : Int))]) (by omega) rfl (by decide) rfl dq_Grp_load_62 ?_
        refine qv_goto C (tgt := 19) (by decide) dq_Grp_load_65 ?_
        refine qv_lv [2, 3, 4, 0] (lv' := [(0, .ref g), (1, .ref k), (2, vi ((s : Nat) : Int)), (3, vi (((i + 1) : Nat) : Int))]) rfl ?_
        exact ih (i + 1) _ (by omega) (Gl_s hG)
  refine qv_aload_n C rfl dq_Grp_load_0 ?_
  refine qv_get C fl_Grp_11 0 rfl rfl dq_Grp_load_1 ?_
  refine qv_lconst C (z := 0) (by decide) dq_Grp_load_4 ?_
  refine qc_sV (wr := [oc g 1 [.ref b, vi ((fi : Nat) : Int), vi ((en : Nat) : Int)], oc k 0 [.ref ka, vi ((len : Nat) : Int), vi pl], ai cI ka 800 f]) (st := []) C cl_Grp_22 cd_JArr_fill (c_JArr_fill cI cJ b 160 0 R (by omega)) (Xok_t K) Xbl_t [1] [0, 2, 3] rfl rfl (by decide) (by decide) (by decide) rfl rfl (Nat.le_of_ble_eq_true rfl) (by decide) (by decide) dq_Grp_load_5 (fun u hu => ?_)
  obtain rfl := hu
  show V K 5 [oc g 1 [.ref b, vi ((fi : Nat) : Int), vi ((en : Nat) : Int)], oc k 0 [.ref ka, vi ((len : Nat) : Int), vi pl], ai cI ka 800 f, aj cJ b 160 (fun _ => 0)] 0 0 8 [(0, .ref g), (1, .ref k)] []
  refine qv_sipush C (by decide) dq_Grp_load_8 ?_
  refine qv_aload_n C rfl dq_Grp_load_11 ?_
  refine qv_get C fl_Grp_43 1 rfl rfl dq_Grp_load_12 ?_
  refine qv_isub C (r := ((s : Nat) : Int)) (by omega) dq_Grp_load_15 ?_
  refine qv_istore_n C (lv' := [(2, vi ((s : Nat) : Int)), (0, .ref g), (1, .ref k)]) (by decide) rfl dq_Grp_load_16 ?_
  refine qv_iconst C dq_Grp_load_17 ?_
  refine qv_istore_n C (lv' := [(3, vi 0), (2, vi ((s : Nat) : Int)), (0, .ref g), (1, .ref k)]) (by decide) rfl dq_Grp_load_18 ?_
  refine qv_ws [0, 3, 1, 2] (ws' := [oc g 1 [.ref b, vi ((fi : Nat) : Int), vi ((en : Nat) : Int)], aj cJ b 160 (fun _ => 0), oc k 0 [.ref ka, vi ((len : Nat) : Int), vi pl], ai cI ka 800 f]) (by decide) rfl ?_
  refine qv_lv [2, 3, 1, 0] (lv' := [(0, .ref g), (1, .ref k), (2, vi ((s : Nat) : Int)), (3, vi 0)]) rfl ?_
  exact loop len 0 _ (by omega) (Gl_0 f s)

theorem c_Tru_nearestSize (cI cJ : ClassId) (x k g w t l hi : Nat) (mi : Bool) (zr : Nat) (pt : Int) (ka len : Nat) (pl : Int) (f : Nat → Nat) (b fi en : Nat) (R : Nat → Nat) (wa : Nat) (hm : Bool) (W : Nat → Nat) (hK : Kd f len pl) (hp : -10000 ≤ pl ∧ pl ≤ 10000) : MtJ cI cJ ky_Tru_nearestSize kb_Tru_nearestSize 1 rm_Tru_nearestSize XU [.ref x] [oc x 3 [.ref k, vi (b2 mi), vi ((zr : Nat) : Int), vi pt, .ref g, .ref w, .ref t, .ref l, .ref hi], oc k 0 [.ref ka, vi ((len : Nat) : Int), vi pl], ai cI ka 800 f, oc g 1 [.ref b, vi ((fi : Nat) : Int), vi ((en : Nat) : Int)], aj cJ b 160 R, oc w 2 [.ref wa, vi (b2 hm)], aj cJ wa 70 W] (fun z u => ∃ (r : Nat) (R2 : Nat → Nat) (fi2 en2 : Nat) (hm2 : Bool) (W2 : Nat → Nat), z = ((r : Nat) : Int) ∧ Ne f len pl r ∧ u = xo x k g w t l hi mi zr pt :: (dw cI k ka len pl f ++ gw cJ g b fi2 en2 R2 ++ ww cJ w wa hm2 W2)) := by
  refine MtJ_in (by decide) (Nat.le_of_ble_eq_true rfl) (fun K C hR hX hN => ?_)
  show V K 1 [oc x 3 [.ref k, vi (b2 mi), vi ((zr : Nat) : Int), vi pt, .ref g, .ref w, .ref t, .ref l, .ref hi], oc k 0 [.ref ka, vi ((len : Nat) : Int), vi pl], ai cI ka 800 f, oc g 1 [.ref b, vi ((fi : Nat) : Int), vi ((en : Nat) : Int)], aj cJ b 160 R, oc w 2 [.ref wa, vi (b2 hm)], aj cJ wa 70 W] 0 0 0 [(0, .ref x)] []
  obtain ⟨hf, hl, hn, hz⟩ := id hK
  have hN := Kd_nrm hK
  refine qv_aload_n C rfl dq_Tru_nearestSize_0 ?_
  refine qv_get C fl_Tru_12 0 rfl rfl dq_Tru_nearestSize_1 ?_
  refine qv_get C fl_Tru_69 1 rfl rfl dq_Tru_nearestSize_4 ?_
  refine qv_ifeq C (by omega) (tgt := 23) (by decide) dq_Tru_nearestSize_7 (fun h7 => ?_) (fun h7 => ?_)
  · skip
    refine qv_lconst C (z := 0) (by decide) dq_Tru_nearestSize_23 ?_
    refine qv_lret C hR ?_ dq_Tru_nearestSize_24 (by decide) (by decide)
    exact ⟨0, R, fi, en, hm, W, rfl, Or.inl ⟨by omega, rfl⟩, rfl⟩
  · skip
    refine qv_aload_n C rfl dq_Tru_nearestSize_10 ?_
    refine qv_get C fl_Tru_12 0 rfl rfl dq_Tru_nearestSize_11 ?_
    refine qv_get C fl_Tru_106 1 rfl rfl dq_Tru_nearestSize_14 ?_
    refine qv_sipush C (by decide) dq_Tru_nearestSize_17 ?_
    refine qv_icge C (by omega) (by omega) (tgt := 25) (by decide) dq_Tru_nearestSize_20 (fun h20 => ?_) (fun h20 => ?_)
    · skip
      refine qv_aload_n C rfl dq_Tru_nearestSize_25 ?_
      refine qv_get C fl_Tru_12 0 rfl rfl dq_Tru_nearestSize_26 ?_
      refine qv_get C fl_Tru_106 1 rfl rfl dq_Tru_nearestSize_29 ?_
      refine qv_sipush C (by decide) dq_Tru_nearestSize_32 ?_
      refine qv_icle C (by omega) (by omega) (tgt := 42) (by decide) dq_Tru_nearestSize_35 (fun h35 => ?_) (fun h35 => ?_)
      · skip
        refine qv_aload_n C rfl dq_Tru_nearestSize_42 ?_
        refine qv_get C fl_Tru_19 0 rfl rfl dq_Tru_nearestSize_43 ?_
        refine qv_aload_n C rfl dq_Tru_nearestSize_46 ?_
        refine qv_get C fl_Tru_12 0 rfl rfl dq_Tru_nearestSize_47 ?_
        refine qc_vV (wr := [oc x 3 [.ref k, vi (b2 mi), vi ((zr : Nat) : Int), vi pt, .ref g, .ref w, .ref t, .ref l, .ref hi], oc w 2 [.ref wa, vi (b2 hm)], aj cJ wa 70 W]) (st := []) C cl_Tru_137 cd_Grp_load (c_Grp_load cI cJ g b fi en R k ka len pl f hf (by omega) (hn (by omega)).2 hl (by omega) (by omega)) (XU_ok hX) XU_bl [3, 4, 1, 2] [0, 5, 6] rfl rfl (by decide) (by decide) (by decide) 0 rfl rfl rfl rfl rfl (Nat.le_of_ble_eq_true rfl) (by decide) (by decide) dq_Tru_nearestSize_50 (fun u hu => ?_)
        obtain ⟨R2, fi2, en2, rfl, hG2, hL2, hv⟩ := hu
        show V K 1 [oc x 3 [.ref k, vi (b2 mi), vi ((zr : Nat) : Int), vi pt, .ref g, .ref w, .ref t, .ref l, .ref hi], oc w 2 [.ref wa, vi (b2 hm)], aj cJ wa 70 W, oc g 1 [.ref b, vi ((fi2 : Nat) : Int), vi ((en2 : Nat) : Int)], aj cJ b 160 R2, oc k 0 [.ref ka, vi ((len : Nat) : Int), vi pl], ai cI ka 800 f] 0 0 53 [(0, .ref x)] []
        refine qv_aload_n C rfl dq_Tru_nearestSize_53 ?_
        refine qv_get C fl_Tru_26 0 rfl rfl dq_Tru_nearestSize_54 ?_
        refine qv_aload_n C rfl dq_Tru_nearestSize_57 ?_
        refine qv_get C fl_Tru_19 0 rfl rfl dq_Tru_nearestSize_58 ?_
        refine qc_vV (wr := [oc x 3 [.ref k, vi (b2 mi), vi ((zr : Nat) : Int), vi pt, .ref g, .ref w, .ref t, .ref l, .ref hi], oc k 0 [.ref ka, vi ((len : Nat) : Int), vi pl], ai cI ka 800 f]) (st := []) C cl_Tru_141 cd_Wrd_load (c_Wrd_load cI cJ w wa hm W g b fi2 en2 R2 hG2 hL2 (int_309 hG2.1 hN (by omega) (by omega) hv)) (Xok_t K) Xbl_t [1, 2, 3, 4] [0, 5, 6] rfl rfl (by decide) (by decide) (by decide) 0 rfl rfl rfl rfl rfl (Nat.le_of_ble_eq_true rfl) (by decide) (by decide) dq_Tru_nearestSize_61 (fun u hu => ?_)
        obtain ⟨R3, fi3, en3, W2, mo, T, top, F, rfl, hWl⟩ := hu
        show V K 1 [oc x 3 [.ref k, vi (b2 mi), vi ((zr : Nat) : Int), vi pt, .ref g, .ref w, .ref t, .ref l, .ref hi], oc k 0 [.ref ka, vi ((len : Nat) : Int), vi pl], ai cI ka 800 f, oc w 2 [.ref wa, vi (b2 mo)], aj cJ wa 70 W2, oc g 1 [.ref b, vi ((fi3 : Nat) : Int), vi ((en3 : Nat) : Int)], aj cJ b 160 R3] 0 0 64 [(0, .ref x)] []
        refine qv_aload_n C rfl dq_Tru_nearestSize_64 ?_
        refine qv_get C fl_Tru_26 0 rfl rfl dq_Tru_nearestSize_65 ?_
        refine qc_vJ (wr := [oc x 3 [.ref k, vi (b2 mi), vi ((zr : Nat) : Int), vi pt, .ref g, .ref w, .ref t, .ref l, .ref hi], oc k 0 [.ref ka, vi ((len : Nat) : Int), vi pl], ai cI ka 800 f, oc g 1 [.ref b, vi ((fi3 : Nat) : Int), vi ((en3 : Nat) : Int)], aj cJ b 160 R3]) (st := []) C cl_Tru_144 cd_Wrd_roundedSize (c_Wrd_roundedSize cI cJ w wa mo W2 (dv 1000000000 R2 160) T top F hWl) (Xok_t K) Xbl_t [3, 4] [0, 1, 2, 5, 6] rfl rfl (by decide) (by decide) (by decide) 0 rfl rfl rfl rfl rfl (Nat.le_of_ble_eq_true rfl) (by decide) (by decide) dq_Tru_nearestSize_68 (fun z u hu => ?_)
        obtain ⟨r, rfl, hr, rfl⟩ := hu
        show V K 1 [oc x 3 [.ref k, vi (b2 mi), vi ((zr : Nat) : Int), vi pt, .ref g, .ref w, .ref t, .ref l, .ref hi], oc k 0 [.ref ka, vi ((len : Nat) : Int), vi pl], ai cI ka 800 f, oc g 1 [.ref b, vi ((fi3 : Nat) : Int), vi ((en3 : Nat) : Int)], aj cJ b 160 R3, oc w 2 [.ref wa, vi (b2 mo)], aj cJ wa 70 W2] 0 0 71 [(0, .ref x)] [vj ((r : Nat) : Int)]
        refine qv_lret C hR ?_ dq_Tru_nearestSize_71 (by decide) (by decide)
        refine ⟨r, R3, fi3, en3, mo, W2, rfl, Or.inr (Or.inr (Or.inr ⟨by omega, by omega, by omega, ?_⟩)), rfl⟩
        have h := Ns_of hr
        rw [hv, ← sv_75 (by omega)] at h
        exact h
      · skip
        refine qv_ldc2 C (z := 9218868437227405312) wk_Tru_41 dq_Tru_nearestSize_38 ?_
        refine qv_lret C hR ?_ dq_Tru_nearestSize_41 (by decide) (by decide)
        refine ⟨INF, R, fi, en, hm, W, by decide, ?_, rfl⟩
        by_cases q : 310 < pl
        · exact Or.inr (Or.inr (Or.inl ⟨by omega, q, rfl⟩))
        · exact Or.inr (Or.inr (Or.inr ⟨by omega, by omega, by omega, Ns_high hN (by omega) (by omega) (by omega)⟩))
    · skip
      refine qv_lconst C (z := 0) (by decide) dq_Tru_nearestSize_23 ?_
      refine qv_lret C hR ?_ dq_Tru_nearestSize_24 (by decide) (by decide)
      refine ⟨0, R, fi, en, hm, W, rfl, ?_, rfl⟩
      by_cases q : pl < -330
      · exact Or.inr (Or.inl ⟨by omega, q, rfl⟩)
      · exact Or.inr (Or.inr (Or.inr ⟨by omega, by omega, by omega, Ns_low hN (by omega) (by omega)⟩))
end
section
/-! n digits that hold -/
theorem up_cg {f g : Nat → Nat} {n : Nat} {p : Int} (h : ∀ i, i < n → f i = g i) : upL f n = upL g n ∧ upP f n p = upP g n p ∧ ∀ i, i < upL f n → upF f n i = upF g n i := by
  have e3 : dn f n = dn g n := dn_cg h
  have e4 := dn_le f n
  unfold upL upP upF
  rw [← e3]
  by_cases h0 : dn f n = 0
  · rw [if_pos h0, if_pos h0, if_pos h0, if_pos h0]
    refine ⟨rfl, rfl, fun i hi => ?_⟩
    have : i = 0 := by omega
    rw [this, un_at, un_at]
  · rw [if_neg h0, if_neg h0, if_neg h0, if_neg h0]
    refine ⟨rfl, rfl, fun i hi => ?_⟩
    by_cases e : i = dn f n - 1
    · rw [e, un_at, un_at, h _ (by omega)]
    · rw [un_ne _ e, un_ne _ e, h i (by omega)]
/-- the value of the cut, from any row that begins alike -/
theorem cut_val {f g : Nat → Nat} {len n : Nat} {p : Int} (h : ∀ i, i < n → g i = f i) : sv 1200 (if gu f len n = true then upF g n else g) (if gu f len n = true then upL g n else dz g n) (if gu f len n = true then upP g n p else dnP g n p) = sv 1200 (ctF f len n) (ctL f len n) (ctP f len n p) := by
  unfold ctF ctL ctP
  by_cases q : gu f len n = true
  · rw [if_pos q, if_pos q, if_pos q, if_pos q, if_pos q, if_pos q]
    obtain ⟨a, b, c⟩ := up_cg (p := p) h
    rw [← a, ← b]
    exact sv_eq c
  · rw [if_neg q, if_neg q, if_neg q, if_neg q, if_neg q, if_neg q]
    have a := dz_cg h
    have b := dz_le f n
    have c : dnP g n p = dnP f n p := by unfold dnP; rw [a]
    rw [c, a]
    exact sv_eq (fun i hi => h i (by omega))
theorem cut_nrm {g : Nat → Nat} {n : Nat} {u : Bool} (h9 : ∀ i, g i ≤ 9) (hn : 0 < n) (h0 : g 0 ≠ 0) : (∀ i, (if u = true then upF g n else g) i ≤ 9) ∧ Nrm (if u = true then upF g n else g) (if u = true then upL g n else dz g n) ∧ 0 < (if u = true then upL g n else dz g n) ∧ (if u = true then upL g n else dz g n) ≤ n := by
  cases u with
  | true =>
    rw [if_pos rfl, if_pos rfl]
    have a := upF_9 (n := n) h9
    exact ⟨a, ⟨fun i _ => by have := a i; omega, fun _ => ⟨by have := upF_0 (n := n) (fun _ => h0); omega, by have := upF_last g n; omega⟩⟩, upL_pos g n, upL_le' g hn⟩
  | false =>
    have e : ¬ false = true := by decide
    rw [if_neg e, if_neg e]
    have hz : 0 < dz g n := by
      by_cases q : dz g n = 0
      · exact absurd (dz_rest g n 0 (by omega) hn) h0
      · omega
    exact ⟨h9, ⟨fun i _ => by have := h9 i; omega, fun _ => ⟨by omega, by have := dz_last g n hz; omega⟩⟩, hz, dz_le g n⟩
theorem cut_pl {g : Nat → Nat} {n : Nat} {u : Bool} {p : Int} (hn : 0 < n) (h0 : g 0 ≠ 0) : p ≤ (if u = true then upP g n p else dnP g n p) ∧ (if u = true then upP g n p else dnP g n p) ≤ p + 1 := by
  cases u with
  | true => rw [if_pos rfl]; unfold upP; split <;> omega
  | false =>
    rw [if_neg (by decide)]
    unfold dnP
    have hz : ¬ dz g n = 0 := fun q => absurd (dz_rest g n 0 (by omega) hn) h0
    rw [if_neg hz]; omega
def Tv (f : Nat → Nat) (len : Nat) (p : Int) (n : Nat) : Nat := sv 1200 (ctF f len n) (ctL f len n) (ctP f len n p)
/-- the class's test, of one side -/
def H1 (f : Nat → Nat) (len : Nat) (p : Int) (L H : Nat) (ev : Bool) (n : Nat) : Prop := if gu f len n = true then (if ev = true then Tv f len p n ≤ H else Tv f len p n < H) else (if ev = true then L ≤ Tv f len p n else L < Tv f len p n)
/-- the test of both sides -/
def H2 (f : Nat → Nat) (len : Nat) (p : Int) (L H : Nat) (ev : Bool) (n : Nat) : Prop := (L < Tv f len p n ∨ L = Tv f len p n ∧ ev = true) ∧ (Tv f len p n < H ∨ Tv f len p n = H ∧ ev = true)
theorem H1_H2 {f : Nat → Nat} {len : Nat} {p : Int} {L H : Nat} {ev : Bool} {n : Nat} (hf : ∀ i, f i ≤ 9) (h0 : f 0 ≠ 0) (hn1 : 0 < n) (hn : n < len) (hp : (len : Int) ≤ p + 1200) (hL : L < sv 1200 f len p ∨ L = sv 1200 f len p ∧ ev = true) (hH : sv 1200 f len p < H ∨ sv 1200 f len p = H ∧ ev = true) : H1 f len p L H ev n ↔ H2 f len p L H ev n := by
  unfold H1 H2 Tv
  by_cases hg : gu f len n = true
  · have h1 := ct_up (K := 1200) hf hn hp hg
    rw [if_pos hg]
    generalize sv 1200 (ctF f len n) (ctL f len n) (ctP f len n p) = T at *
    cases ev with
    | true =>
      rw [if_pos rfl]
      constructor
      · intro q; exact ⟨Or.inl (by omega), by
          by_cases z : T < H
          · exact Or.inl z
          · exact Or.inr ⟨by omega, rfl⟩⟩
      · intro q; omega
    | false =>
      rw [if_neg (by decide)]
      constructor
      · intro q; exact ⟨Or.inl (by omega), Or.inl q⟩
      · intro ⟨_, q⟩
        rcases q with q | ⟨_, q⟩
        · exact q
        · cases q
  · have hz : 0 < dz f n := by
      by_cases q : dz f n = 0
      · exact absurd (dz_rest f n 0 (by omega) hn1) h0
      · omega
    have h1 := ct_dn (K := 1200) hf hn hp hz hg
    rw [if_neg hg]
    generalize sv 1200 (ctF f len n) (ctL f len n) (ctP f len n p) = T at *
    cases ev with
    | true =>
      rw [if_pos rfl]
      constructor
      · intro q; exact ⟨by
          by_cases z : L < T
          · exact Or.inl z
          · exact Or.inr ⟨by omega, rfl⟩, by
          by_cases z : T < H
          · exact Or.inl z
          · exact Or.inr ⟨by omega, rfl⟩⟩
      · intro q; omega
    | false =>
      rw [if_neg (by decide)]
      have hH2 : sv 1200 f len p < H := by
        rcases hH with q | ⟨_, q⟩
        · exact q
        · cases q
      constructor
      · intro q; exact ⟨Or.inl q, Or.inl (by omega)⟩
      · intro ⟨q, _⟩
        rcases q with q | ⟨_, q⟩
        · exact q
        · cases q
/-- a decimal that is m * 2 ** p -/
def Mid (r : Nat) (f : Nat → Nat) (len : Nat) (pl : Int) : Prop := Kd f len pl ∧ 0 < len ∧ -1125 ≤ pl ∧ pl ≤ 315 ∧ (len : Int) ≤ pl + 1125 ∧ sv 1200 f len pl * 2 ^ 1075 = md r * 10 ^ 1200
theorem Mid_of {r : Nat} {f : Nat → Nat} {len : Nat} {pl : Int} (h : Sp (2 * fc r + 1) (((pw r : Nat) : Int) - 1075) len pl f) : Mid r f len pl := by
  obtain ⟨a, b, c, -, e⟩ := h
  obtain ⟨e1, e2, e3⟩ := e (by omega)
  refine ⟨a, e1, b, c, e3, ?_⟩
  rw [sv_75 e3]
  have q1 : (((pw r : Nat) : Int) - 1075 + 1076).toNat = pw r + 1 := by omega
  rw [q1] at e2
  have q2 : sv 1125 f len pl * 2 ^ 1075 = md r * 10 ^ 1125 := by
    apply Nat.eq_of_mul_eq_mul_right (show 0 < 2 by omega)
    have q3 : sv 1125 f len pl * 2 ^ 1075 * 2 = sv 1125 f len pl * 2 ^ 1076 := by rw [Nat.mul_assoc, ← Nat.pow_succ]
    rw [q3, e2]
    unfold md
    rw [Nat.pow_succ, ← Nat.mul_assoc, Nat.mul_right_comm]
  have q4 : (10 : Nat) ^ 1200 = 10 ^ 1125 * 10 ^ 75 := by rw [← Nat.pow_add]
  rw [q4, Nat.mul_right_comm, q2, Nat.mul_assoc]
end
section
theorem c_Tru_holdsWith (cI cJ : ClassId) (x k g w t l hi : Nat) (mi : Bool) (zr : Nat) (pt : Int) (ka len : Nat) (pl : Int) (f : Nat → Nat) (ta lt : Nat) (pt2 : Int) (ft : Nat → Nat) (la ll : Nat) (pll : Int) (fl1 : Nat → Nat) (ha lh : Nat) (ph : Int) (fh : Nat → Nat) (n : Nat) (ev : Bool) (hK : Kd f len pl) (hn1 : 0 < n) (hn2 : n < len) (hp1 : -330 ≤ pl) (hp2 : pl ≤ 310) (hft : ∀ i, ft i ≤ 9) (hkl : Kd fl1 ll pll) (hkh : Kd fh lh ph) (hl0 : 0 < ll) (hh0 : 0 < lh) (hpl1 : -1125 ≤ pll) (hpl2 : pll ≤ 315) (hph1 : -1125 ≤ ph) (hph2 : ph ≤ 315) (hql : (ll : Int) ≤ pll + 1125) (hqh : (lh : Int) ≤ ph + 1125) : MtI cI cJ ky_Tru_holdsWith kb_Tru_holdsWith 5 .boolean rm_Tru_holdsWith Xt [.ref x, vi ((n : Nat) : Int), vi (b2 ev)] [oc x 3 [.ref k, vi (b2 mi), vi ((zr : Nat) : Int), vi pt, .ref g, .ref w, .ref t, .ref l, .ref hi], oc k 0 [.ref ka, vi ((len : Nat) : Int), vi pl], ai cI ka 800 f, oc t 0 [.ref ta, vi ((lt : Nat) : Int), vi pt2], ai cI ta 800 ft, oc l 0 [.ref la, vi ((ll : Nat) : Int), vi pll], ai cI la 800 fl1, oc hi 0 [.ref ha, vi ((lh : Nat) : Int), vi ph], ai cI ha 800 fh] (fun z u => ∃ (hw : Bool) (lt2 : Nat) (pt3 : Int) (ft2 : Nat → Nat), z = b2 hw ∧ (hw = true ↔ H1 f len pl (sv 1200 fl1 ll pll) (sv 1200 fh lh ph) ev n) ∧ (∀ i, ft2 i ≤ 9) ∧ u = xo x k g w t l hi mi zr pt :: (dw cI k ka len pl f ++ dw cI t ta lt2 pt3 ft2 ++ dw cI l la ll pll fl1 ++ dw cI hi ha lh ph fh)) := by
  refine MtI_in (by decide) (Nat.le_of_ble_eq_true rfl) (fun K C hR hX hN => ?_)
  show V K 5 [oc x 3 [.ref k, vi (b2 mi), vi ((zr : Nat) : Int), vi pt, .ref g, .ref w, .ref t, .ref l, .ref hi], oc k 0 [.ref ka, vi ((len : Nat) : Int), vi pl], ai cI ka 800 f, oc t 0 [.ref ta, vi ((lt : Nat) : Int), vi pt2], ai cI ta 800 ft, oc l 0 [.ref la, vi ((ll : Nat) : Int), vi pll], ai cI la 800 fl1, oc hi 0 [.ref ha, vi ((lh : Nat) : Int), vi ph], ai cI ha 800 fh] 0 0 0 [(0, .ref x), (1, vi ((n : Nat) : Int)), (2, vi (b2 ev))] []
  obtain ⟨hf, hl, hnz, -⟩ := id hK
  obtain ⟨hfl, hll, hnl, -⟩ := id hkl
  obtain ⟨hfh, hlh, hnh, -⟩ := id hkh
  have h00 := (hnz (by omega)).1
  obtain ⟨gg, hg⟩ : ∃ gg, gg = va_cpy f ft 0 0 n := ⟨_, rfl⟩
  have hg9 : ∀ i, gg i ≤ 9 := by rw [hg]; exact cpy_9 hf hft
  have hgf : ∀ i, i < n → gg i = f i := fun i hi => by rw [hg]; exact cpy_lt hi
  have hg0 : gg 0 ≠ 0 := by rw [hgf 0 hn1]; exact h00
  obtain ⟨up, hup⟩ : ∃ up, up = gu f len n := ⟨_, rfl⟩
  obtain ⟨c1, c2, c3, c4⟩ := cut_nrm (u := up) hg9 hn1 hg0
  obtain ⟨c5, c6⟩ := cut_pl (u := up) (p := pl) hn1 hg0
  have hT : sv 1200 (if up = true then upF gg n else gg) (if up = true then upL gg n else dz gg n) (if up = true then upP gg n pl else dnP gg n pl) = Tv f len pl n := by rw [hup]; exact cut_val hgf
  obtain ⟨F, hF⟩ : ∃ F, F = (if up = true then upF gg n else gg) := ⟨_, rfl⟩
  obtain ⟨Lt, hLt⟩ : ∃ L, L = (if up = true then upL gg n else dz gg n) := ⟨_, rfl⟩
  obtain ⟨Pt, hPt⟩ : ∃ P, P = (if up = true then upP gg n pl else dnP gg n pl) := ⟨_, rfl⟩
  rw [← hF] at c1 c2 hT
  rw [← hLt] at c2 c3 c4 hT
  rw [← hPt] at c5 c6 hT
  refine qv_aload_n C rfl dq_Tru_holdsWith_0 ?_
  refine qv_get C fl_Tru_12 0 rfl rfl dq_Tru_holdsWith_1 ?_
  refine qv_iload_n C rfl dq_Tru_holdsWith_4 ?_
  refine qc_vI (wr := [oc x 3 [.ref k, vi (b2 mi), vi ((zr : Nat) : Int), vi pt, .ref g, .ref w, .ref t, .ref l, .ref hi], oc t 0 [.ref ta, vi ((lt : Nat) : Int), vi pt2], ai cI ta 800 ft, oc l 0 [.ref la, vi ((ll : Nat) : Int), vi pll], ai cI la 800 fl1, oc hi 0 [.ref ha, vi ((lh : Nat) : Int), vi ph], ai cI ha 800 fh]) (st := []) C cl_Tru_155 cd_Dec_goesUpBehind (c_Dec_goesUpBehind cI cJ k ka len pl f n hl hf hn2) (Xok_t K) Xbl_t [1, 2] [0, 3, 4, 5, 6, 7, 8] rfl rfl (by decide) (by decide) (by decide) 0 rfl rfl rfl rfl rfl (Nat.le_of_ble_eq_true rfl) (by decide) (by decide) dq_Tru_holdsWith_5 (fun z u hu => ?_)
  obtain ⟨rfl, rfl⟩ := hu
  rw [← hup]
  show V K 5 [oc x 3 [.ref k, vi (b2 mi), vi ((zr : Nat) : Int), vi pt, .ref g, .ref w, .ref t, .ref l, .ref hi], oc t 0 [.ref ta, vi ((lt : Nat) : Int), vi pt2], ai cI ta 800 ft, oc l 0 [.ref la, vi ((ll : Nat) : Int), vi pll], ai cI la 800 fl1, oc hi 0 [.ref ha, vi ((lh : Nat) : Int), vi ph], ai cI ha 800 fh, oc k 0 [.ref ka, vi ((len : Nat) : Int), vi pl], ai cI ka 800 f] 0 0 8 [(0, .ref x), (1, vi ((n : Nat) : Int)), (2, vi (b2 ev))] [vi (b2 up)]
  refine qv_istore_n C (lv' := [(3, vi (b2 up)), (0, .ref x), (1, vi ((n : Nat) : Int)), (2, vi (b2 ev))]) (by decide) rfl dq_Tru_holdsWith_8 ?_
  refine qv_aload_n C rfl dq_Tru_holdsWith_9 ?_
  refine qv_get C fl_Tru_30 0 rfl rfl dq_Tru_holdsWith_10 ?_
  refine qv_aload_n C rfl dq_Tru_holdsWith_13 ?_
  refine qv_get C fl_Tru_12 0 rfl rfl dq_Tru_holdsWith_14 ?_
  refine qv_iload_n C rfl dq_Tru_holdsWith_17 ?_
  refine qc_vV (wr := [oc x 3 [.ref k, vi (b2 mi), vi ((zr : Nat) : Int), vi pt, .ref g, .ref w, .ref t, .ref l, .ref hi], oc l 0 [.ref la, vi ((ll : Nat) : Int), vi pll], ai cI la 800 fl1, oc hi 0 [.ref ha, vi ((lh : Nat) : Int), vi ph], ai cI ha 800 fh]) (st := []) C cl_Tru_158 cd_Dec_beStartOf (c_Dec_beStartOf cI cJ t ta lt pt2 ft k ka len pl f n (by omega)) (Xok_t K) Xbl_t [1, 2, 7, 8] [0, 3, 4, 5, 6] rfl rfl (by decide) (by decide) (by decide) 0 rfl rfl rfl rfl rfl (Nat.le_of_ble_eq_true rfl) (by decide) (by decide) dq_Tru_holdsWith_18 (fun u hu => ?_)
  obtain rfl := hu
  rw [← hg]
  show V K 5 [oc x 3 [.ref k, vi (b2 mi), vi ((zr : Nat) : Int), vi pt, .ref g, .ref w, .ref t, .ref l, .ref hi], oc l 0 [.ref la, vi ((ll : Nat) : Int), vi pll], ai cI la 800 fl1, oc hi 0 [.ref ha, vi ((lh : Nat) : Int), vi ph], ai cI ha 800 fh, oc t 0 [.ref ta, vi ((n : Nat) : Int), vi pl], ai cI ta 800 gg, oc k 0 [.ref ka, vi ((len : Nat) : Int), vi pl], ai cI ka 800 f] 0 0 21 [(3, vi (b2 up)), (0, .ref x), (1, vi ((n : Nat) : Int)), (2, vi (b2 ev))] []
  refine qv_aload_n C rfl dq_Tru_holdsWith_21 ?_
  refine qv_get C fl_Tru_30 0 rfl rfl dq_Tru_holdsWith_22 ?_
  refine qv_iload_n C rfl dq_Tru_holdsWith_25 ?_
  refine qc_vV (wr := [oc x 3 [.ref k, vi (b2 mi), vi ((zr : Nat) : Int), vi pt, .ref g, .ref w, .ref t, .ref l, .ref hi], oc l 0 [.ref la, vi ((ll : Nat) : Int), vi pll], ai cI la 800 fl1, oc hi 0 [.ref ha, vi ((lh : Nat) : Int), vi ph], ai cI ha 800 fh, oc k 0 [.ref ka, vi ((len : Nat) : Int), vi pl], ai cI ka 800 f]) (st := []) C cl_Tru_162 cd_Dec_settle (c_Dec_settle cI cJ t ta n pl gg up (by omega) hg9) (Xok_t K) Xbl_t [5, 6] [0, 1, 2, 3, 4, 7, 8] rfl rfl (by decide) (by decide) (by decide) 0 rfl rfl rfl rfl rfl (Nat.le_of_ble_eq_true rfl) (by decide) (by decide) dq_Tru_holdsWith_26 (fun u hu => ?_)
  obtain rfl := hu
  rw [← hF, ← hLt, ← hPt]
  show V K 5 [oc x 3 [.ref k, vi (b2 mi), vi ((zr : Nat) : Int), vi pt, .ref g, .ref w, .ref t, .ref l, .ref hi], oc l 0 [.ref la, vi ((ll : Nat) : Int), vi pll], ai cI la 800 fl1, oc hi 0 [.ref ha, vi ((lh : Nat) : Int), vi ph], ai cI ha 800 fh, oc k 0 [.ref ka, vi ((len : Nat) : Int), vi pl], ai cI ka 800 f, oc t 0 [.ref ta, vi ((Lt : Nat) : Int), vi Pt], ai cI ta 800 F] 0 0 29 [(3, vi (b2 up)), (0, .ref x), (1, vi ((n : Nat) : Int)), (2, vi (b2 ev))] []
  refine qv_iload_n C rfl dq_Tru_holdsWith_29 ?_
  refine qv_ifeq C (rb_b2 up) (tgt := 47) (by decide) dq_Tru_holdsWith_30 (fun h30 => ?_) (fun h30 => ?_)
  · skip
    refine qv_aload_n C rfl dq_Tru_holdsWith_47 ?_
    refine qv_get C fl_Tru_30 0 rfl rfl dq_Tru_holdsWith_48 ?_
    refine qv_aload_n C rfl dq_Tru_holdsWith_51 ?_
    refine qv_get C fl_Tru_33 0 rfl rfl dq_Tru_holdsWith_52 ?_
    refine qc_vI (wr := [oc x 3 [.ref k, vi (b2 mi), vi ((zr : Nat) : Int), vi pt, .ref g, .ref w, .ref t, .ref l, .ref hi], oc hi 0 [.ref ha, vi ((lh : Nat) : Int), vi ph], ai cI ha 800 fh, oc k 0 [.ref ka, vi ((len : Nat) : Int), vi pl], ai cI ka 800 f]) (st := []) C cl_Tru_166 cd_Dec_against (c_Dec_against cI cJ t ta l la Lt ll Pt pll F fl1 c2 (Kd_nrm hkl) c3 hl0 (by omega) hll c1 hfl (by omega) (by omega) (by omega) (by omega)) (Xok_t K) Xbl_t [7, 8, 1, 2] [0, 3, 4, 5, 6] rfl rfl (by decide) (by decide) (by decide) 0 rfl rfl rfl rfl rfl (Nat.le_of_ble_eq_true rfl) (by decide) (by decide) dq_Tru_holdsWith_55 (fun z u hu => ?_)
    obtain ⟨hC, hzr, rfl⟩ := hu
    rw [hT] at hC
    show V K 5 [oc x 3 [.ref k, vi (b2 mi), vi ((zr : Nat) : Int), vi pt, .ref g, .ref w, .ref t, .ref l, .ref hi], oc hi 0 [.ref ha, vi ((lh : Nat) : Int), vi ph], ai cI ha 800 fh, oc k 0 [.ref ka, vi ((len : Nat) : Int), vi pl], ai cI ka 800 f, oc t 0 [.ref ta, vi ((Lt : Nat) : Int), vi Pt], ai cI ta 800 F, oc l 0 [.ref la, vi ((ll : Nat) : Int), vi pll], ai cI la 800 fl1] 0 0 58 [(3, vi (b2 up)), (0, .ref x), (1, vi ((n : Nat) : Int)), (2, vi (b2 ev))] [vi z]
    refine qv_istore C (lv' := [(4, vi z), (3, vi (b2 up)), (0, .ref x), (1, vi ((n : Nat) : Int)), (2, vi (b2 ev))]) (by decide) rfl dq_Tru_holdsWith_58 ?_
    refine qv_iload_n C rfl dq_Tru_holdsWith_60 ?_
    refine qv_ifeq C (rb_b2 ev) (tgt := 77) (by decide) dq_Tru_holdsWith_61 (fun h61 => ?_) (fun h61 => ?_)
    · skip
      refine qv_iload C rfl dq_Tru_holdsWith_77 ?_
      refine qv_ifle C (by omega) (tgt := 86) (by decide) dq_Tru_holdsWith_79 (fun h79 => ?_) (fun h79 => ?_)
      · skip
        refine qv_iconst C dq_Tru_holdsWith_86 ?_
        refine qv_ws [0, 3, 4, 5, 6, 7, 8, 1, 2] (ws' := [oc x 3 [.ref k, vi (b2 mi), vi ((zr : Nat) : Int), vi pt, .ref g, .ref w, .ref t, .ref l, .ref hi], oc k 0 [.ref ka, vi ((len : Nat) : Int), vi pl], ai cI ka 800 f, oc t 0 [.ref ta, vi ((Lt : Nat) : Int), vi Pt], ai cI ta 800 F, oc l 0 [.ref la, vi ((ll : Nat) : Int), vi pll], ai cI la 800 fl1, oc hi 0 [.ref ha, vi ((lh : Nat) : Int), vi ph], ai cI ha 800 fh]) (by decide) rfl ?_
        refine qv_zret (b := false) C hR ?_ dq_Tru_holdsWith_87 (by decide) (by decide)
        have hu1 := b2_f h30
        have he1 := b2_f h61
        refine ⟨false, Lt, Pt, F, rfl, ?_, c1, rfl⟩
        unfold H1 Cs at *
        rw [← hup, hu1, he1]
        simp only [if_true, if_false, Bool.false_eq_true, false_iff, true_iff]
        omega
      · skip
        refine qv_iconst C dq_Tru_holdsWith_82 ?_
        refine qv_goto C (tgt := 87) (by decide) dq_Tru_holdsWith_83 ?_
        refine qv_ws [0, 3, 4, 5, 6, 7, 8, 1, 2] (ws' := [oc x 3 [.ref k, vi (b2 mi), vi ((zr : Nat) : Int), vi pt, .ref g, .ref w, .ref t, .ref l, .ref hi], oc k 0 [.ref ka, vi ((len : Nat) : Int), vi pl], ai cI ka 800 f, oc t 0 [.ref ta, vi ((Lt : Nat) : Int), vi Pt], ai cI ta 800 F, oc l 0 [.ref la, vi ((ll : Nat) : Int), vi pll], ai cI la 800 fl1, oc hi 0 [.ref ha, vi ((lh : Nat) : Int), vi ph], ai cI ha 800 fh]) (by decide) rfl ?_
        refine qv_zret (b := true) C hR ?_ dq_Tru_holdsWith_87 (by decide) (by decide)
        have hu1 := b2_f h30
        have he1 := b2_f h61
        refine ⟨true, Lt, Pt, F, rfl, ?_, c1, rfl⟩
        unfold H1 Cs at *
        rw [← hup, hu1, he1]
        simp only [if_true, if_false, Bool.false_eq_true, false_iff, true_iff]
        omega
    · skip
      refine qv_iload C rfl dq_Tru_holdsWith_64 ?_
      refine qv_iflt C (by omega) (tgt := 73) (by decide) dq_Tru_holdsWith_66 (fun h66 => ?_) (fun h66 => ?_)
      · skip
        refine qv_iconst C dq_Tru_holdsWith_73 ?_
        refine qv_goto C (tgt := 87) (by decide) dq_Tru_holdsWith_74 ?_
        refine qv_ws [0, 3, 4, 5, 6, 7, 8, 1, 2] (ws' := [oc x 3 [.ref k, vi (b2 mi), vi ((zr : Nat) : Int), vi pt, .ref g, .ref w, .ref t, .ref l, .ref hi], oc k 0 [.ref ka, vi ((len : Nat) : Int), vi pl], ai cI ka 800 f, oc t 0 [.ref ta, vi ((Lt : Nat) : Int), vi Pt], ai cI ta 800 F, oc l 0 [.ref la, vi ((ll : Nat) : Int), vi pll], ai cI la 800 fl1, oc hi 0 [.ref ha, vi ((lh : Nat) : Int), vi ph], ai cI ha 800 fh]) (by decide) rfl ?_
        refine qv_zret (b := false) C hR ?_ dq_Tru_holdsWith_87 (by decide) (by decide)
        have hu1 := b2_f h30
        have he1 := b2_t h61
        refine ⟨false, Lt, Pt, F, rfl, ?_, c1, rfl⟩
        unfold H1 Cs at *
        rw [← hup, hu1, he1]
        simp only [if_true, if_false, Bool.false_eq_true, false_iff, true_iff]
        omega
      · skip
        refine qv_iconst C dq_Tru_holdsWith_69 ?_
        refine qv_goto C (tgt := 87) (by decide) dq_Tru_holdsWith_70 ?_
        refine qv_ws [0, 3, 4, 5, 6, 7, 8, 1, 2] (ws' := [oc x 3 [.ref k, vi (b2 mi), vi ((zr : Nat) : Int), vi pt, .ref g, .ref w, .ref t, .ref l, .ref hi], oc k 0 [.ref ka, vi ((len : Nat) : Int), vi pl], ai cI ka 800 f, oc t 0 [.ref ta, vi ((Lt : Nat) : Int), vi Pt], ai cI ta 800 F, oc l 0 [.ref la, vi ((ll : Nat) : Int), vi pll], ai cI la 800 fl1, oc hi 0 [.ref ha, vi ((lh : Nat) : Int), vi ph], ai cI ha 800 fh]) (by decide) rfl ?_
        refine qv_zret (b := true) C hR ?_ dq_Tru_holdsWith_87 (by decide) (by decide)
        have hu1 := b2_f h30
        have he1 := b2_t h61
        refine ⟨true, Lt, Pt, F, rfl, ?_, c1, rfl⟩
        unfold H1 Cs at *
        rw [← hup, hu1, he1]
        simp only [if_true, if_false, Bool.false_eq_true, false_iff, true_iff]
        omega
  · skip
    refine qv_aload_n C rfl dq_Tru_holdsWith_33 ?_
    refine qv_get C fl_Tru_36 0 rfl rfl dq_Tru_holdsWith_34 ?_
    refine qv_aload_n C rfl dq_Tru_holdsWith_37 ?_
    refine qv_get C fl_Tru_30 0 rfl rfl dq_Tru_holdsWith_38 ?_
    refine qc_vI (wr := [oc x 3 [.ref k, vi (b2 mi), vi ((zr : Nat) : Int), vi pt, .ref g, .ref w, .ref t, .ref l, .ref hi], oc l 0 [.ref la, vi ((ll : Nat) : Int), vi pll], ai cI la 800 fl1, oc k 0 [.ref ka, vi ((len : Nat) : Int), vi pl], ai cI ka 800 f]) (st := []) C cl_Tru_166 cd_Dec_against (c_Dec_against cI cJ hi ha t ta lh Lt ph Pt fh F (Kd_nrm hkh) c2 hh0 c3 hlh (by omega) hfh c1 (by omega) (by omega) (by omega) (by omega)) (Xok_t K) Xbl_t [3, 4, 7, 8] [0, 1, 2, 5, 6] rfl rfl (by decide) (by decide) (by decide) 0 rfl rfl rfl rfl rfl (Nat.le_of_ble_eq_true rfl) (by decide) (by decide) dq_Tru_holdsWith_41 (fun z u hu => ?_)
    obtain ⟨hC, hzr, rfl⟩ := hu
    rw [hT] at hC
    show V K 5 [oc x 3 [.ref k, vi (b2 mi), vi ((zr : Nat) : Int), vi pt, .ref g, .ref w, .ref t, .ref l, .ref hi], oc l 0 [.ref la, vi ((ll : Nat) : Int), vi pll], ai cI la 800 fl1, oc k 0 [.ref ka, vi ((len : Nat) : Int), vi pl], ai cI ka 800 f, oc hi 0 [.ref ha, vi ((lh : Nat) : Int), vi ph], ai cI ha 800 fh, oc t 0 [.ref ta, vi ((Lt : Nat) : Int), vi Pt], ai cI ta 800 F] 0 0 44 [(3, vi (b2 up)), (0, .ref x), (1, vi ((n : Nat) : Int)), (2, vi (b2 ev))] [vi z]
    refine qv_goto C (tgt := 58) (by decide) dq_Tru_holdsWith_44 ?_
    refine qv_istore C (lv' := [(4, vi z), (3, vi (b2 up)), (0, .ref x), (1, vi ((n : Nat) : Int)), (2, vi (b2 ev))]) (by decide) rfl dq_Tru_holdsWith_58 ?_
    refine qv_iload_n C rfl dq_Tru_holdsWith_60 ?_
    refine qv_ifeq C (rb_b2 ev) (tgt := 77) (by decide) dq_Tru_holdsWith_61 (fun h61 => ?_) (fun h61 => ?_)
    · skip
      refine qv_iload C rfl dq_Tru_holdsWith_77 ?_
      refine qv_ifle C (by omega) (tgt := 86) (by decide) dq_Tru_holdsWith_79 (fun h79 => ?_) (fun h79 => ?_)
      · skip
        refine qv_iconst C dq_Tru_holdsWith_86 ?_
        refine qv_ws [0, 3, 4, 7, 8, 1, 2, 5, 6] (ws' := [oc x 3 [.ref k, vi (b2 mi), vi ((zr : Nat) : Int), vi pt, .ref g, .ref w, .ref t, .ref l, .ref hi], oc k 0 [.ref ka, vi ((len : Nat) : Int), vi pl], ai cI ka 800 f, oc t 0 [.ref ta, vi ((Lt : Nat) : Int), vi Pt], ai cI ta 800 F, oc l 0 [.ref la, vi ((ll : Nat) : Int), vi pll], ai cI la 800 fl1, oc hi 0 [.ref ha, vi ((lh : Nat) : Int), vi ph], ai cI ha 800 fh]) (by decide) rfl ?_
        refine qv_zret (b := false) C hR ?_ dq_Tru_holdsWith_87 (by decide) (by decide)
        have hu1 := b2_t h30
        have he1 := b2_f h61
        refine ⟨false, Lt, Pt, F, rfl, ?_, c1, rfl⟩
        unfold H1 Cs at *
        rw [← hup, hu1, he1]
        simp only [if_true, if_false, Bool.false_eq_true, false_iff, true_iff]
        omega
      · skip
        refine qv_iconst C dq_Tru_holdsWith_82 ?_
        refine qv_goto C (tgt := 87) (by decide) dq_Tru_holdsWith_83 ?_
        refine qv_ws [0, 3, 4, 7, 8, 1, 2, 5, 6] (ws' := [oc x 3 [.ref k, vi (b2 mi), vi ((zr : Nat) : Int), vi pt, .ref g, .ref w, .ref t, .ref l, .ref hi], oc k 0 [.ref ka, vi ((len : Nat) : Int), vi pl], ai cI ka 800 f, oc t 0 [.ref ta, vi ((Lt : Nat) : Int), vi Pt], ai cI ta 800 F, oc l 0 [.ref la, vi ((ll : Nat) : Int), vi pll], ai cI la 800 fl1, oc hi 0 [.ref ha, vi ((lh : Nat) : Int), vi ph], ai cI ha 800 fh]) (by decide) rfl ?_
        refine qv_zret (b := true) C hR ?_ dq_Tru_holdsWith_87 (by decide) (by decide)
        have hu1 := b2_t h30
        have he1 := b2_f h61
        refine ⟨true, Lt, Pt, F, rfl, ?_, c1, rfl⟩
        unfold H1 Cs at *
        rw [← hup, hu1, he1]
        simp only [if_true, if_false, Bool.false_eq_true, false_iff, true_iff]
        omega
    · skip
      refine qv_iload C rfl dq_Tru_holdsWith_64 ?_
      refine qv_iflt C (by omega) (tgt := 73) (by decide) dq_Tru_holdsWith_66 (fun h66 => ?_) (fun h66 => ?_)
      · skip
        refine qv_iconst C dq_Tru_holdsWith_73 ?_
        refine qv_goto C (tgt := 87) (by decide) dq_Tru_holdsWith_74 ?_
        refine qv_ws [0, 3, 4, 7, 8, 1, 2, 5, 6] (ws' := [oc x 3 [.ref k, vi (b2 mi), vi ((zr : Nat) : Int), vi pt, .ref g, .ref w, .ref t, .ref l, .ref hi], oc k 0 [.ref ka, vi ((len : Nat) : Int), vi pl], ai cI ka 800 f, oc t 0 [.ref ta, vi ((Lt : Nat) : Int), vi Pt], ai cI ta 800 F, oc l 0 [.ref la, vi ((ll : Nat) : Int), vi pll], ai cI la 800 fl1, oc hi 0 [.ref ha, vi ((lh : Nat) : Int), vi ph], ai cI ha 800 fh]) (by decide) rfl ?_
        refine qv_zret (b := false) C hR ?_ dq_Tru_holdsWith_87 (by decide) (by decide)
        have hu1 := b2_t h30
        have he1 := b2_t h61
        refine ⟨false, Lt, Pt, F, rfl, ?_, c1, rfl⟩
        unfold H1 Cs at *
        rw [← hup, hu1, he1]
        simp only [if_true, if_false, Bool.false_eq_true, false_iff, true_iff]
        omega
      · skip
        refine qv_iconst C dq_Tru_holdsWith_69 ?_
        refine qv_goto C (tgt := 87) (by decide) dq_Tru_holdsWith_70 ?_
        refine qv_ws [0, 3, 4, 7, 8, 1, 2, 5, 6] (ws' := [oc x 3 [.ref k, vi (b2 mi), vi ((zr : Nat) : Int), vi pt, .ref g, .ref w, .ref t, .ref l, .ref hi], oc k 0 [.ref ka, vi ((len : Nat) : Int), vi pl], ai cI ka 800 f, oc t 0 [.ref ta, vi ((Lt : Nat) : Int), vi Pt], ai cI ta 800 F, oc l 0 [.ref la, vi ((ll : Nat) : Int), vi pll], ai cI la 800 fl1, oc hi 0 [.ref ha, vi ((lh : Nat) : Int), vi ph], ai cI ha 800 fh]) (by decide) rfl ?_
        refine qv_zret (b := true) C hR ?_ dq_Tru_holdsWith_87 (by decide) (by decide)
        have hu1 := b2_t h30
        have he1 := b2_t h61
        refine ⟨true, Lt, Pt, F, rfl, ?_, c1, rfl⟩
        unfold H1 Cs at *
        rw [← hup, hu1, he1]
        simp only [if_true, if_false, Bool.false_eq_true, false_iff, true_iff]
        omega

theorem c_Tru_leastDigitsFor (cI cJ : ClassId) (x k g w t l hi : Nat) (mi : Bool) (zr : Nat) (pt : Int) (ka len : Nat) (pl : Int) (f : Nat → Nat) (ta lt : Nat) (pt2 : Int) (ft : Nat → Nat) (b fi en : Nat) (R : Nat → Nat) (la ll : Nat) (pll : Int) (fl1 : Nat → Nat) (ha lh : Nat) (ph : Int) (fh : Nat → Nat) (r : Nat) (hr0 : 0 < r) (hr : r < INF) (hK : Kd f len pl) (h0 : 0 < len) (hp1 : -330 ≤ pl) (hp2 : pl ≤ 310) (hft : ∀ i, ft i ≤ 9) (hfl : ∀ i, fl1 i ≤ 9) (hfh : ∀ i, fh i ≤ 9) : MtI cI cJ ky_Tru_leastDigitsFor kb_Tru_leastDigitsFor 5 .int rm_Tru_leastDigitsFor Xt [.ref x, vj ((r : Nat) : Int)] [oc x 3 [.ref k, vi (b2 mi), vi ((zr : Nat) : Int), vi pt, .ref g, .ref w, .ref t, .ref l, .ref hi], oc k 0 [.ref ka, vi ((len : Nat) : Int), vi pl], ai cI ka 800 f, oc g 1 [.ref b, vi ((fi : Nat) : Int), vi ((en : Nat) : Int)], aj cJ b 160 R, oc t 0 [.ref ta, vi ((lt : Nat) : Int), vi pt2], ai cI ta 800 ft, oc l 0 [.ref la, vi ((ll : Nat) : Int), vi pll], ai cI la 800 fl1, oc hi 0 [.ref ha, vi ((lh : Nat) : Int), vi ph], ai cI ha 800 fh] (fun z u => ∃ (n : Nat) (L H : Nat) (lt2 : Nat) (pt3 : Int) (ft2 : Nat → Nat) (fi2 en2 : Nat) (R2 : Nat → Nat) (ll2 : Nat) (pll2 : Int) (fl2 : Nat → Nat) (lh2 : Nat) (ph2 : Int) (fh2 : Nat → Nat), z = ((n : Nat) : Int) ∧ 0 < n ∧ n ≤ len ∧ L * 2 ^ 1075 = md (r - 1) * 10 ^ 1200 ∧ H * 2 ^ 1075 = md r * 10 ^ 1200 ∧ (∀ m, 0 < m → m < n → ¬ H1 f len pl L H (decide (r % 2 = 0)) m) ∧ (n < len → H1 f len pl L H (decide (r % 2 = 0)) n) ∧ (∀ i, ft2 i ≤ 9) ∧ (∀ i, fl2 i ≤ 9) ∧ (∀ i, fh2 i ≤ 9) ∧ u = xo x k g w t l hi mi zr pt :: (dw cI k ka len pl f ++ gw cJ g b fi2 en2 R2 ++ dw cI t ta lt2 pt3 ft2 ++ dw cI l la ll2 pll2 fl2 ++ dw cI hi ha lh2 ph2 fh2)) := by
  refine MtI_in (by decide) (Nat.le_of_ble_eq_true rfl) (fun K C hR hX hN => ?_)
  show V K 5 [oc x 3 [.ref k, vi (b2 mi), vi ((zr : Nat) : Int), vi pt, .ref g, .ref w, .ref t, .ref l, .ref hi], oc k 0 [.ref ka, vi ((len : Nat) : Int), vi pl], ai cI ka 800 f, oc g 1 [.ref b, vi ((fi : Nat) : Int), vi ((en : Nat) : Int)], aj cJ b 160 R, oc t 0 [.ref ta, vi ((lt : Nat) : Int), vi pt2], ai cI ta 800 ft, oc l 0 [.ref la, vi ((ll : Nat) : Int), vi pll], ai cI la 800 fl1, oc hi 0 [.ref ha, vi ((lh : Nat) : Int), vi ph], ai cI ha 800 fh] 0 0 0 [(0, .ref x), (1, vj ((r : Nat) : Int))] []
  have hINF : INF = 9218868437227405312 := rfl
  obtain ⟨ev, hev⟩ : ∃ ev, ev = decide (r % 2 = 0) := ⟨_, rfl⟩
  have hl8 := hK.2.1
  have loop : ∀ (fi3 en3 : Nat) (R3 : Nat → Nat) (ll2 : Nat) (pll2 : Int) (fl2 : Nat → Nat) (lh2 : Nat) (ph2 : Int) (fh2 : Nat → Nat), Mid (r - 1) fl2 ll2 pll2 → Mid r fh2 lh2 ph2 → ∀ c n (lt : Nat) (pt2 : Int) (ft : Nat → Nat), n + c = len → 0 < n → (∀ i, ft i ≤ 9) → (∀ m, 0 < m → m < n → ¬ H1 f len pl (sv 1200 fl2 ll2 pll2) (sv 1200 fh2 lh2 ph2) ev m) → V K 5 [oc x 3 [.ref k, vi (b2 mi), vi ((zr : Nat) : Int), vi pt, .ref g, .ref w, .ref t, .ref l, .ref hi], oc k 0 [.ref ka, vi ((len : Nat) : Int), vi pl], ai cI ka 800 f, oc g 1 [.ref b, vi ((fi3 : Nat) : Int), vi ((en3 : Nat) : Int)], aj cJ b 160 R3, oc t 0 [.ref ta, vi ((lt : Nat) : Int), vi pt2], ai cI ta 800 ft, oc l 0 [.ref la, vi ((ll2 : Nat) : Int), vi pll2], ai cI la 800 fl2, oc hi 0 [.ref ha, vi ((lh2 : Nat) : Int), vi ph2], ai cI ha 800 fh2] 0 0 37 [(0, .ref x), (1, vj ((r : Nat) : Int)), (3, vi (b2 ev)), (4, vi ((n : Nat) : Int))] [] := by
    intro fi3 en3 R3 ll2 pll2 fl2 lh2 ph2 fh2 hML hMH c
    obtain ⟨a1, a2, a3, a4, a5, a6⟩ := id hML
    obtain ⟨e1, e2, e3, e4, e5, e6⟩ := id hMH
    induction c with
    | zero =>
      intro n lt pt2 ft hn hn0 hft hno
      refine qv_iload C rfl dq_Tru_leastDigitsFor_37 ?_
      refine qv_aload_n C rfl dq_Tru_leastDigitsFor_39 ?_
      refine qv_get C fl_Tru_12 0 rfl rfl dq_Tru_leastDigitsFor_40 ?_
      refine qv_get C fl_Tru_69 1 rfl rfl dq_Tru_leastDigitsFor_43 ?_
      refine qv_icge C (by omega) (by omega) (tgt := 65) (by decide) dq_Tru_leastDigitsFor_46 (fun h46 => ?_) (fun h46 => ?_)
      · skip
        refine qv_iload C rfl dq_Tru_leastDigitsFor_65 ?_
        refine qv_iret C hR ?_ dq_Tru_leastDigitsFor_67 (by decide) (by decide)
        exact ⟨n, sv 1200 fl2 ll2 pll2, sv 1200 fh2 lh2 ph2, lt, pt2, ft, fi3, en3, R3, ll2, pll2, fl2, lh2, ph2, fh2, rfl, by omega, by omega, a6, e6, by rw [← hev]; exact hno, fun q => by omega, hft, a1.1, e1.1, rfl⟩
      · exfalso; omega
    | succ c ih =>
      intro n lt pt2 ft hn hn0 hft hno
      refine qv_iload C rfl dq_Tru_leastDigitsFor_37 ?_
      refine qv_aload_n C rfl dq_Tru_leastDigitsFor_39 ?_
      refine qv_get C fl_Tru_12 0 rfl rfl dq_Tru_leastDigitsFor_40 ?_
      refine qv_get C fl_Tru_69 1 rfl rfl dq_Tru_leastDigitsFor_43 ?_
      refine qv_icge C (by omega) (by omega) (tgt := 65) (by decide) dq_Tru_leastDigitsFor_46 (fun h46 => ?_) (fun h46 => ?_)
      · exfalso; omega
      · skip
        refine qv_aload_n C rfl dq_Tru_leastDigitsFor_49 ?_
        refine qv_iload C rfl dq_Tru_leastDigitsFor_50 ?_
        refine qv_iload_n C rfl dq_Tru_leastDigitsFor_52 ?_
        refine qc_vI (wr := [oc g 1 [.ref b, vi ((fi3 : Nat) : Int), vi ((en3 : Nat) : Int)], aj cJ b 160 R3]) (st := []) C cl_Tru_151 cd_Tru_holdsWith (c_Tru_holdsWith cI cJ x k g w t l hi mi zr pt ka len pl f ta lt pt2 ft la ll2 pll2 fl2 ha lh2 ph2 fh2 n ev hK (by omega) (by omega) hp1 hp2 hft a1 e1 a2 e2 a3 a4 e3 e4 a5 e5) (Xok_t K) Xbl_t [0, 1, 2, 5, 6, 7, 8, 9, 10] [3, 4] rfl rfl (by decide) (by decide) (by decide) 0 rfl rfl rfl rfl rfl (Nat.le_of_ble_eq_true rfl) (by decide) (by decide) dq_Tru_leastDigitsFor_53 (fun z u hu => ?_)
        obtain ⟨hw, lt3, pt3, ft3, rfl, hhw, hft2, rfl⟩ := hu
        show V K 5 [oc g 1 [.ref b, vi ((fi3 : Nat) : Int), vi ((en3 : Nat) : Int)], aj cJ b 160 R3, oc x 3 [.ref k, vi (b2 mi), vi ((zr : Nat) : Int), vi pt, .ref g, .ref w, .ref t, .ref l, .ref hi], oc k 0 [.ref ka, vi ((len : Nat) : Int), vi pl], ai cI ka 800 f, oc t 0 [.ref ta, vi ((lt3 : Nat) : Int), vi pt3], ai cI ta 800 ft3, oc l 0 [.ref la, vi ((ll2 : Nat) : Int), vi pll2], ai cI la 800 fl2, oc hi 0 [.ref ha, vi ((lh2 : Nat) : Int), vi ph2], ai cI ha 800 fh2] 0 0 56 [(0, .ref x), (1, vj ((r : Nat) : Int)), (3, vi (b2 ev)), (4, vi ((n : Nat) : Int))] [vi (b2 hw)]
        refine qv_ifne C (rb_b2 hw) (tgt := 65) (by decide) dq_Tru_leastDigitsFor_56 (fun h56 => ?_) (fun h56 => ?_)
        · skip
          refine qv_iload C rfl dq_Tru_leastDigitsFor_65 ?_
          refine qv_ws [2, 3, 4, 0, 1, 5, 6, 7, 8, 9, 10] (ws' := [oc x 3 [.ref k, vi (b2 mi), vi ((zr : Nat) : Int), vi pt, .ref g, .ref w, .ref t, .ref l, .ref hi], oc k 0 [.ref ka, vi ((len : Nat) : Int), vi pl], ai cI ka 800 f, oc g 1 [.ref b, vi ((fi3 : Nat) : Int), vi ((en3 : Nat) : Int)], aj cJ b 160 R3, oc t 0 [.ref ta, vi ((lt3 : Nat) : Int), vi pt3], ai cI ta 800 ft3, oc l 0 [.ref la, vi ((ll2 : Nat) : Int), vi pll2], ai cI la 800 fl2, oc hi 0 [.ref ha, vi ((lh2 : Nat) : Int), vi ph2], ai cI ha 800 fh2]) (by decide) rfl ?_
          refine qv_iret C hR ?_ dq_Tru_leastDigitsFor_67 (by decide) (by decide)
          exact ⟨n, sv 1200 fl2 ll2 pll2, sv 1200 fh2 lh2 ph2, lt3, pt3, ft3, fi3, en3, R3, ll2, pll2, fl2, lh2, ph2, fh2, rfl, by omega, by omega, a6, e6, by rw [← hev]; exact hno, fun _ => by rw [← hev]; exact hhw.mp (b2_t h56), hft2, a1.1, e1.1, rfl⟩
        · skip
          refine qv_iinc C (j := 3) (lv' := [(4, vi (((n + 1) : Nat) : Int)), (0, .ref x), (1, vj ((r : Nat) : Int)), (3, vi (b2 ev))]) (by omega) rfl (by decide) rfl dq_Tru_leastDigitsFor_59 ?_
          refine qv_goto C (tgt := 37) (by decide) dq_Tru_leastDigitsFor_62 ?_
          refine qv_ws [2, 3, 4, 0, 1, 5, 6, 7, 8, 9, 10] (ws' := [oc x 3 [.ref k, vi (b2 mi), vi ((zr : Nat) : Int), vi pt, .ref g, .ref w, .ref t, .ref l, .ref hi], oc k 0 [.ref ka, vi ((len : Nat) : Int), vi pl], ai cI ka 800 f, oc g 1 [.ref b, vi ((fi3 : Nat) : Int), vi ((en3 : Nat) : Int)], aj cJ b 160 R3, oc t 0 [.ref ta, vi ((lt3 : Nat) : Int), vi pt3], ai cI ta 800 ft3, oc l 0 [.ref la, vi ((ll2 : Nat) : Int), vi pll2], ai cI la 800 fl2, oc hi 0 [.ref ha, vi ((lh2 : Nat) : Int), vi ph2], ai cI ha 800 fh2]) (by decide) rfl ?_
          refine qv_lv [1, 2, 3, 0] (lv' := [(0, .ref x), (1, vj ((r : Nat) : Int)), (3, vi (b2 ev)), (4, vi (((n + 1) : Nat) : Int))]) rfl ?_
          have hf9 := b2_f h56
          exact ih (n + 1) lt3 pt3 ft3 (by omega) (by omega) hft2 (fun m q1 q2 => by
            by_cases q : m = n
            · rw [q]; intro q3; rw [hhw.mpr q3] at hf9; cases hf9
            · exact hno m q1 (by omega))
  refine qv_aload_n C rfl dq_Tru_leastDigitsFor_0 ?_
  refine qv_lload_n C rfl dq_Tru_leastDigitsFor_1 ?_
  refine qv_lconst C (z := 1) (by decide) dq_Tru_leastDigitsFor_2 ?_
  refine qv_lsub C (r := (((r - 1) : Nat) : Int)) (by omega) dq_Tru_leastDigitsFor_3 ?_
  refine qv_aload_n C rfl dq_Tru_leastDigitsFor_4 ?_
  refine qv_get C fl_Tru_33 0 rfl rfl dq_Tru_leastDigitsFor_5 ?_
  refine qc_vV (wr := [oc k 0 [.ref ka, vi ((len : Nat) : Int), vi pl], ai cI ka 800 f, oc t 0 [.ref ta, vi ((lt : Nat) : Int), vi pt2], ai cI ta 800 ft, oc hi 0 [.ref ha, vi ((lh : Nat) : Int), vi ph], ai cI ha 800 fh]) (st := []) C cl_Tru_147 cd_Tru_spellMiddleAbove (c_Tru_spellMiddleAbove cI cJ x k g w t l hi mi zr pt b fi en R l la ll pll fl1 hfl (r - 1) (by omega)) (Xok_t K) Xbl_t [0, 3, 4, 7, 8] [1, 2, 5, 6, 9, 10] rfl rfl (by decide) (by decide) (by decide) 0 rfl rfl rfl rfl rfl (Nat.le_of_ble_eq_true rfl) (by decide) (by decide) dq_Tru_leastDigitsFor_8 (fun u hu => ?_)
  obtain ⟨R2, fi2, en2, ll2, pll2, fl2, rfl, hS1⟩ := hu
  show V K 5 [oc k 0 [.ref ka, vi ((len : Nat) : Int), vi pl], ai cI ka 800 f, oc t 0 [.ref ta, vi ((lt : Nat) : Int), vi pt2], ai cI ta 800 ft, oc hi 0 [.ref ha, vi ((lh : Nat) : Int), vi ph], ai cI ha 800 fh, oc x 3 [.ref k, vi (b2 mi), vi ((zr : Nat) : Int), vi pt, .ref g, .ref w, .ref t, .ref l, .ref hi], oc g 1 [.ref b, vi ((fi2 : Nat) : Int), vi ((en2 : Nat) : Int)], aj cJ b 160 R2, oc l 0 [.ref la, vi ((ll2 : Nat) : Int), vi pll2], ai cI la 800 fl2] 0 0 11 [(0, .ref x), (1, vj ((r : Nat) : Int))] []
  refine qv_aload_n C rfl dq_Tru_leastDigitsFor_11 ?_
  refine qv_lload_n C rfl dq_Tru_leastDigitsFor_12 ?_
  refine qv_aload_n C rfl dq_Tru_leastDigitsFor_13 ?_
  refine qv_get C fl_Tru_36 6 rfl rfl dq_Tru_leastDigitsFor_14 ?_
  refine qc_vV (wr := [oc k 0 [.ref ka, vi ((len : Nat) : Int), vi pl], ai cI ka 800 f, oc t 0 [.ref ta, vi ((lt : Nat) : Int), vi pt2], ai cI ta 800 ft, oc l 0 [.ref la, vi ((ll2 : Nat) : Int), vi pll2], ai cI la 800 fl2]) (st := []) C cl_Tru_147 cd_Tru_spellMiddleAbove (c_Tru_spellMiddleAbove cI cJ x k g w t l hi mi zr pt b fi2 en2 R2 hi ha lh ph fh hfh r (by omega)) (Xok_t K) Xbl_t [6, 7, 8, 4, 5] [0, 1, 2, 3, 9, 10] rfl rfl (by decide) (by decide) (by decide) 0 rfl rfl rfl rfl rfl (Nat.le_of_ble_eq_true rfl) (by decide) (by decide) dq_Tru_leastDigitsFor_17 (fun u hu => ?_)
  obtain ⟨R3, fi3, en3, lh2, ph2, fh2, rfl, hS2⟩ := hu
  show V K 5 [oc k 0 [.ref ka, vi ((len : Nat) : Int), vi pl], ai cI ka 800 f, oc t 0 [.ref ta, vi ((lt : Nat) : Int), vi pt2], ai cI ta 800 ft, oc l 0 [.ref la, vi ((ll2 : Nat) : Int), vi pll2], ai cI la 800 fl2, oc x 3 [.ref k, vi (b2 mi), vi ((zr : Nat) : Int), vi pt, .ref g, .ref w, .ref t, .ref l, .ref hi], oc g 1 [.ref b, vi ((fi3 : Nat) : Int), vi ((en3 : Nat) : Int)], aj cJ b 160 R3, oc hi 0 [.ref ha, vi ((lh2 : Nat) : Int), vi ph2], ai cI ha 800 fh2] 0 0 20 [(0, .ref x), (1, vj ((r : Nat) : Int))] []
  refine qv_lload_n C rfl dq_Tru_leastDigitsFor_20 ?_
  refine qv_lconst C (z := 1) (by decide) dq_Tru_leastDigitsFor_21 ?_
  refine qv_land C (r := (((r % 2) : Nat) : Int)) (zj_and (a := r) (b := 1) (by omega)) dq_Tru_leastDigitsFor_22 ?_
  refine qv_lconst C (z := 0) (by decide) dq_Tru_leastDigitsFor_23 ?_
  refine qv_lcne C (by omega) (by omega) dq_Tru_leastDigitsFor_24 (tgt := 32) (by decide) dq_Tru_leastDigitsFor_25 (fun h24 => ?_) (fun h24 => ?_)
  · skip
    refine qv_iconst C dq_Tru_leastDigitsFor_32 ?_
    refine qv_ti (r := b2 ev) (by rw [hev, decide_eq_false (by omega)]; rfl) ?_
    refine qv_istore_n C (lv' := [(3, vi (b2 ev)), (0, .ref x), (1, vj ((r : Nat) : Int))]) (by decide) rfl dq_Tru_leastDigitsFor_33 ?_
    refine qv_iconst C dq_Tru_leastDigitsFor_34 ?_
    refine qv_istore C (lv' := [(4, vi 1), (3, vi (b2 ev)), (0, .ref x), (1, vj ((r : Nat) : Int))]) (by decide) rfl dq_Tru_leastDigitsFor_35 ?_
    refine qv_ws [6, 0, 1, 7, 8, 2, 3, 4, 5, 9, 10] (ws' := [oc x 3 [.ref k, vi (b2 mi), vi ((zr : Nat) : Int), vi pt, .ref g, .ref w, .ref t, .ref l, .ref hi], oc k 0 [.ref ka, vi ((len : Nat) : Int), vi pl], ai cI ka 800 f, oc g 1 [.ref b, vi ((fi3 : Nat) : Int), vi ((en3 : Nat) : Int)], aj cJ b 160 R3, oc t 0 [.ref ta, vi ((lt : Nat) : Int), vi pt2], ai cI ta 800 ft, oc l 0 [.ref la, vi ((ll2 : Nat) : Int), vi pll2], ai cI la 800 fl2, oc hi 0 [.ref ha, vi ((lh2 : Nat) : Int), vi ph2], ai cI ha 800 fh2]) (by decide) rfl ?_
    refine qv_lv [2, 3, 1, 0] (lv' := [(0, .ref x), (1, vj ((r : Nat) : Int)), (3, vi (b2 ev)), (4, vi 1)]) rfl ?_
    exact loop fi3 en3 R3 ll2 pll2 fl2 lh2 ph2 fh2 (Mid_of hS1) (Mid_of hS2) (len - 1) 1 lt pt2 ft (by omega) (by omega) hft (fun m q1 q2 => by omega)
  · skip
    refine qv_iconst C dq_Tru_leastDigitsFor_28 ?_
    refine qv_goto C (tgt := 33) (by decide) dq_Tru_leastDigitsFor_29 ?_
    refine qv_ti (r := b2 ev) (by rw [hev, decide_eq_true (by omega)]; rfl) ?_
    refine qv_istore_n C (lv' := [(3, vi (b2 ev)), (0, .ref x), (1, vj ((r : Nat) : Int))]) (by decide) rfl dq_Tru_leastDigitsFor_33 ?_
    refine qv_iconst C dq_Tru_leastDigitsFor_34 ?_
    refine qv_istore C (lv' := [(4, vi 1), (3, vi (b2 ev)), (0, .ref x), (1, vj ((r : Nat) : Int))]) (by decide) rfl dq_Tru_leastDigitsFor_35 ?_
    refine qv_ws [6, 0, 1, 7, 8, 2, 3, 4, 5, 9, 10] (ws' := [oc x 3 [.ref k, vi (b2 mi), vi ((zr : Nat) : Int), vi pt, .ref g, .ref w, .ref t, .ref l, .ref hi], oc k 0 [.ref ka, vi ((len : Nat) : Int), vi pl], ai cI ka 800 f, oc g 1 [.ref b, vi ((fi3 : Nat) : Int), vi ((en3 : Nat) : Int)], aj cJ b 160 R3, oc t 0 [.ref ta, vi ((lt : Nat) : Int), vi pt2], ai cI ta 800 ft, oc l 0 [.ref la, vi ((ll2 : Nat) : Int), vi pll2], ai cI la 800 fl2, oc hi 0 [.ref ha, vi ((lh2 : Nat) : Int), vi ph2], ai cI ha 800 fh2]) (by decide) rfl ?_
    refine qv_lv [2, 3, 1, 0] (lv' := [(0, .ref x), (1, vj ((r : Nat) : Int)), (3, vi (b2 ev)), (4, vi 1)]) rfl ?_
    exact loop fi3 en3 R3 ll2 pll2 fl2 lh2 ph2 fh2 (Mid_of hS1) (Mid_of hS2) (len - 1) 1 lt pt2 ft (by omega) (by omega) hft (fun m q1 q2 => by omega)
end
section
theorem dq_Law_set_0 : decode kb_Law_set 0 = .ok (.aload_n 3, 1) := by decide +kernel
theorem dq_Law_set_1 : decode kb_Law_set 1 = .ok (.iconst 0, 1) := by decide +kernel
theorem dq_Law_set_2 : decode kb_Law_set 2 = .ok (.aload_n 0, 1) := by decide +kernel
theorem dq_Law_set_3 : decode kb_Law_set 3 = .ok (.lload_n 1, 1) := by decide +kernel
theorem dq_Law_set_4 : decode kb_Law_set 4 = .ok (.invokevirtual 7, 3) := by decide +kernel
theorem dq_Law_set_7 : decode kb_Law_set 7 = .ok (.i2l, 1) := by decide +kernel
theorem dq_Law_set_8 : decode kb_Law_set 8 = .ok (.lastore, 1) := by decide +kernel
theorem dq_Law_set_9 : decode kb_Law_set 9 = .ok (.goto 7, 3) := by decide +kernel
theorem dq_Law_set_12 : decode kb_Law_set 12 = .ok (.astore 4, 2) := by decide +kernel
theorem dq_Law_set_14 : decode kb_Law_set 14 = .ok (.iconst 1, 1) := by decide +kernel
theorem dq_Law_set_15 : decode kb_Law_set 15 = .ok (.ireturn, 1) := by decide +kernel
theorem dq_Law_set_16 : decode kb_Law_set 16 = .ok (.iconst 0, 1) := by decide +kernel
theorem dq_Law_set_17 : decode kb_Law_set 17 = .ok (.ireturn, 1) := by decide +kernel
theorem dq_Law_digit_0 : decode kb_Law_digit 0 = .ok (.aload_n 2, 1) := by decide +kernel
theorem dq_Law_digit_1 : decode kb_Law_digit 1 = .ok (.iconst 0, 1) := by decide +kernel
theorem dq_Law_digit_2 : decode kb_Law_digit 2 = .ok (.aload_n 0, 1) := by decide +kernel
theorem dq_Law_digit_3 : decode kb_Law_digit 3 = .ok (.iload_n 1, 1) := by decide +kernel
theorem dq_Law_digit_4 : decode kb_Law_digit 4 = .ok (.invokevirtual 15, 3) := by decide +kernel
theorem dq_Law_digit_7 : decode kb_Law_digit 7 = .ok (.i2l, 1) := by decide +kernel
theorem dq_Law_digit_8 : decode kb_Law_digit 8 = .ok (.lastore, 1) := by decide +kernel
theorem dq_Law_digit_9 : decode kb_Law_digit 9 = .ok (.goto 9, 3) := by decide +kernel
theorem dq_Law_digit_12 : decode kb_Law_digit 12 = .ok (.astore_n 3, 1) := by decide +kernel
theorem dq_Law_digit_13 : decode kb_Law_digit 13 = .ok (.iconst 1, 1) := by decide +kernel
theorem dq_Law_digit_14 : decode kb_Law_digit 14 = .ok (.ireturn, 1) := by decide +kernel
theorem dq_Law_digit_15 : decode kb_Law_digit 15 = .ok (.astore_n 3, 1) := by decide +kernel
theorem dq_Law_digit_16 : decode kb_Law_digit 16 = .ok (.iconst 2, 1) := by decide +kernel
theorem dq_Law_digit_17 : decode kb_Law_digit 17 = .ok (.ireturn, 1) := by decide +kernel
theorem dq_Law_digit_18 : decode kb_Law_digit 18 = .ok (.iconst 0, 1) := by decide +kernel
theorem dq_Law_digit_19 : decode kb_Law_digit 19 = .ok (.ireturn, 1) := by decide +kernel
theorem dq_Law_clear_0 : decode kb_Law_clear 0 = .ok (.aload_n 0, 1) := by decide +kernel
theorem dq_Law_clear_1 : decode kb_Law_clear 1 = .ok (.iload_n 1, 1) := by decide +kernel
theorem dq_Law_clear_2 : decode kb_Law_clear 2 = .ok (.iload_n 2, 1) := by decide +kernel
theorem dq_Law_clear_3 : decode kb_Law_clear 3 = .ok (.invokevirtual 21, 3) := by decide +kernel
theorem dq_Law_clear_6 : decode kb_Law_clear 6 = .ok (.goto 6, 3) := by decide +kernel
theorem dq_Law_clear_9 : decode kb_Law_clear 9 = .ok (.astore_n 3, 1) := by decide +kernel
theorem dq_Law_clear_10 : decode kb_Law_clear 10 = .ok (.iconst 1, 1) := by decide +kernel
theorem dq_Law_clear_11 : decode kb_Law_clear 11 = .ok (.ireturn, 1) := by decide +kernel
theorem dq_Law_clear_12 : decode kb_Law_clear 12 = .ok (.iconst 0, 1) := by decide +kernel
theorem dq_Law_clear_13 : decode kb_Law_clear 13 = .ok (.ireturn, 1) := by decide +kernel
theorem dq_Law_round_0 : decode kb_Law_round 0 = .ok (.aload_n 2, 1) := by decide +kernel
theorem dq_Law_round_1 : decode kb_Law_round 1 = .ok (.iconst 0, 1) := by decide +kernel
theorem dq_Law_round_2 : decode kb_Law_round 2 = .ok (.aload_n 0, 1) := by decide +kernel
theorem dq_Law_round_3 : decode kb_Law_round 3 = .ok (.iload_n 1, 1) := by decide +kernel
theorem dq_Law_round_4 : decode kb_Law_round 4 = .ok (.invokevirtual 25, 3) := by decide +kernel
theorem dq_Law_round_7 : decode kb_Law_round 7 = .ok (.i2l, 1) := by decide +kernel
theorem dq_Law_round_8 : decode kb_Law_round 8 = .ok (.lastore, 1) := by decide +kernel
theorem dq_Law_round_9 : decode kb_Law_round 9 = .ok (.goto 6, 3) := by decide +kernel
theorem dq_Law_round_12 : decode kb_Law_round 12 = .ok (.astore_n 3, 1) := by decide +kernel
theorem dq_Law_round_13 : decode kb_Law_round 13 = .ok (.iconst 1, 1) := by decide +kernel
theorem dq_Law_round_14 : decode kb_Law_round 14 = .ok (.ireturn, 1) := by decide +kernel
theorem dq_Law_round_15 : decode kb_Law_round 15 = .ok (.iconst 0, 1) := by decide +kernel
theorem dq_Law_round_16 : decode kb_Law_round 16 = .ok (.ireturn, 1) := by decide +kernel
theorem dq_Law_places_0 : decode kb_Law_places 0 = .ok (.aload_n 2, 1) := by decide +kernel
theorem dq_Law_places_1 : decode kb_Law_places 1 = .ok (.iconst 0, 1) := by decide +kernel
theorem dq_Law_places_2 : decode kb_Law_places 2 = .ok (.aload_n 0, 1) := by decide +kernel
theorem dq_Law_places_3 : decode kb_Law_places 3 = .ok (.iload_n 1, 1) := by decide +kernel
theorem dq_Law_places_4 : decode kb_Law_places 4 = .ok (.invokevirtual 28, 3) := by decide +kernel
theorem dq_Law_places_7 : decode kb_Law_places 7 = .ok (.i2l, 1) := by decide +kernel
theorem dq_Law_places_8 : decode kb_Law_places 8 = .ok (.lastore, 1) := by decide +kernel
theorem dq_Law_places_9 : decode kb_Law_places 9 = .ok (.goto 6, 3) := by decide +kernel
theorem dq_Law_places_12 : decode kb_Law_places 12 = .ok (.astore_n 3, 1) := by decide +kernel
theorem dq_Law_places_13 : decode kb_Law_places 13 = .ok (.iconst 1, 1) := by decide +kernel
theorem dq_Law_places_14 : decode kb_Law_places 14 = .ok (.ireturn, 1) := by decide +kernel
theorem dq_Law_places_15 : decode kb_Law_places 15 = .ok (.iconst 0, 1) := by decide +kernel
theorem dq_Law_places_16 : decode kb_Law_places 16 = .ok (.ireturn, 1) := by decide +kernel
theorem dq_Law_nearest_0 : decode kb_Law_nearest 0 = .ok (.aload_n 1, 1) := by decide +kernel
theorem dq_Law_nearest_1 : decode kb_Law_nearest 1 = .ok (.iconst 0, 1) := by decide +kernel
theorem dq_Law_nearest_2 : decode kb_Law_nearest 2 = .ok (.aload_n 0, 1) := by decide +kernel
theorem dq_Law_nearest_3 : decode kb_Law_nearest 3 = .ok (.invokevirtual 31, 3) := by decide +kernel
theorem dq_Law_nearest_6 : decode kb_Law_nearest 6 = .ok (.lastore, 1) := by decide +kernel
theorem dq_Law_nearest_7 : decode kb_Law_nearest 7 = .ok (.goto 6, 3) := by decide +kernel
theorem dq_Law_nearest_10 : decode kb_Law_nearest 10 = .ok (.astore_n 2, 1) := by decide +kernel
theorem dq_Law_nearest_11 : decode kb_Law_nearest 11 = .ok (.iconst 1, 1) := by decide +kernel
theorem dq_Law_nearest_12 : decode kb_Law_nearest 12 = .ok (.ireturn, 1) := by decide +kernel
theorem dq_Law_nearest_13 : decode kb_Law_nearest 13 = .ok (.iconst 0, 1) := by decide +kernel
theorem dq_Law_nearest_14 : decode kb_Law_nearest 14 = .ok (.ireturn, 1) := by decide +kernel
theorem dq_Law_enough_0 : decode kb_Law_enough 0 = .ok (.aload_n 1, 1) := by decide +kernel
theorem dq_Law_enough_1 : decode kb_Law_enough 1 = .ok (.iconst 0, 1) := by decide +kernel
theorem dq_Law_enough_2 : decode kb_Law_enough 2 = .ok (.aload_n 0, 1) := by decide +kernel
theorem dq_Law_enough_3 : decode kb_Law_enough 3 = .ok (.invokevirtual 37, 3) := by decide +kernel
theorem dq_Law_enough_6 : decode kb_Law_enough 6 = .ok (.i2l, 1) := by decide +kernel
theorem dq_Law_enough_7 : decode kb_Law_enough 7 = .ok (.lastore, 1) := by decide +kernel
theorem dq_Law_enough_8 : decode kb_Law_enough 8 = .ok (.goto 6, 3) := by decide +kernel
theorem dq_Law_enough_11 : decode kb_Law_enough 11 = .ok (.astore_n 2, 1) := by decide +kernel
theorem dq_Law_enough_12 : decode kb_Law_enough 12 = .ok (.iconst 1, 1) := by decide +kernel
theorem dq_Law_enough_13 : decode kb_Law_enough 13 = .ok (.ireturn, 1) := by decide +kernel
theorem dq_Law_enough_14 : decode kb_Law_enough 14 = .ok (.iconst 0, 1) := by decide +kernel
theorem dq_Law_enough_15 : decode kb_Law_enough 15 = .ok (.ireturn, 1) := by decide +kernel
theorem dq_Law_look_0 : decode kb_Law_look 0 = .ok (.aload_n 2, 1) := by decide +kernel
theorem dq_Law_look_1 : decode kb_Law_look 1 = .ok (.iconst 0, 1) := by decide +kernel
theorem dq_Law_look_2 : decode kb_Law_look 2 = .ok (.aload_n 0, 1) := by decide +kernel
theorem dq_Law_look_3 : decode kb_Law_look 3 = .ok (.iload_n 1, 1) := by decide +kernel
theorem dq_Law_look_4 : decode kb_Law_look 4 = .ok (.invokevirtual 41, 3) := by decide +kernel
theorem dq_Law_look_7 : decode kb_Law_look 7 = .ok (.i2l, 1) := by decide +kernel
theorem dq_Law_look_8 : decode kb_Law_look 8 = .ok (.lastore, 1) := by decide +kernel
theorem dq_Law_look_9 : decode kb_Law_look 9 = .ok (.goto 6, 3) := by decide +kernel
theorem dq_Law_look_12 : decode kb_Law_look 12 = .ok (.astore_n 3, 1) := by decide +kernel
theorem dq_Law_look_13 : decode kb_Law_look 13 = .ok (.iconst 1, 1) := by decide +kernel
theorem dq_Law_look_14 : decode kb_Law_look 14 = .ok (.ireturn, 1) := by decide +kernel
theorem dq_Law_look_15 : decode kb_Law_look 15 = .ok (.iconst 0, 1) := by decide +kernel
theorem dq_Law_look_16 : decode kb_Law_look 16 = .ok (.ireturn, 1) := by decide +kernel
theorem dq_Law_count_0 : decode kb_Law_count 0 = .ok (.aload_n 2, 1) := by decide +kernel
theorem dq_Law_count_1 : decode kb_Law_count 1 = .ok (.iconst 0, 1) := by decide +kernel
theorem dq_Law_count_2 : decode kb_Law_count 2 = .ok (.aload_n 0, 1) := by decide +kernel
theorem dq_Law_count_3 : decode kb_Law_count 3 = .ok (.iload_n 1, 1) := by decide +kernel
theorem dq_Law_count_4 : decode kb_Law_count 4 = .ok (.invokevirtual 44, 3) := by decide +kernel
theorem dq_Law_count_7 : decode kb_Law_count 7 = .ok (.i2l, 1) := by decide +kernel
theorem dq_Law_count_8 : decode kb_Law_count 8 = .ok (.lastore, 1) := by decide +kernel
theorem dq_Law_count_9 : decode kb_Law_count 9 = .ok (.goto 6, 3) := by decide +kernel
theorem dq_Law_count_12 : decode kb_Law_count 12 = .ok (.astore_n 3, 1) := by decide +kernel
theorem dq_Law_count_13 : decode kb_Law_count 13 = .ok (.iconst 1, 1) := by decide +kernel
theorem dq_Law_count_14 : decode kb_Law_count 14 = .ok (.ireturn, 1) := by decide +kernel
theorem dq_Law_count_15 : decode kb_Law_count 15 = .ok (.iconst 0, 1) := by decide +kernel
theorem dq_Law_count_16 : decode kb_Law_count 16 = .ok (.ireturn, 1) := by decide +kernel
end
section
theorem dq_Mod_init_0 : decode kb_Mod_init 0 = .ok (.aload_n 0, 1) := by decide +kernel
theorem dq_Mod_init_1 : decode kb_Mod_init 1 = .ok (.invokespecial 1, 3) := by decide +kernel
theorem dq_Mod_init_4 : decode kb_Mod_init 4 = .ok (.aload_n 0, 1) := by decide +kernel
theorem dq_Mod_init_5 : decode kb_Mod_init 5 = .ok (.sipush 800, 3) := by decide +kernel
theorem dq_Mod_init_8 : decode kb_Mod_init 8 = .ok (.newarray .int, 2) := by decide +kernel
theorem dq_Mod_init_10 : decode kb_Mod_init 10 = .ok (.putfield 9, 3) := by decide +kernel
theorem dq_Mod_init_13 : decode kb_Mod_init 13 = .ok (.aload_n 0, 1) := by decide +kernel
theorem dq_Mod_init_14 : decode kb_Mod_init 14 = .ok (.sipush 1200, 3) := by decide +kernel
theorem dq_Mod_init_17 : decode kb_Mod_init 17 = .ok (.newarray .int, 2) := by decide +kernel
theorem dq_Mod_init_19 : decode kb_Mod_init 19 = .ok (.putfield 13, 3) := by decide +kernel
theorem dq_Mod_init_22 : decode kb_Mod_init 22 = .ok (.aload_n 0, 1) := by decide +kernel
theorem dq_Mod_init_23 : decode kb_Mod_init 23 = .ok (.sipush 1100, 3) := by decide +kernel
theorem dq_Mod_init_26 : decode kb_Mod_init 26 = .ok (.newarray .int, 2) := by decide +kernel
theorem dq_Mod_init_28 : decode kb_Mod_init 28 = .ok (.putfield 16, 3) := by decide +kernel
theorem dq_Mod_init_31 : decode kb_Mod_init 31 = .ok (.aload_n 0, 1) := by decide +kernel
theorem dq_Mod_init_32 : decode kb_Mod_init 32 = .ok (.sipush 800, 3) := by decide +kernel
theorem dq_Mod_init_35 : decode kb_Mod_init 35 = .ok (.newarray .int, 2) := by decide +kernel
theorem dq_Mod_init_37 : decode kb_Mod_init 37 = .ok (.putfield 19, 3) := by decide +kernel
theorem dq_Mod_init_40 : decode kb_Mod_init 40 = .ok (.aload_n 0, 1) := by decide +kernel
theorem dq_Mod_init_41 : decode kb_Mod_init 41 = .ok (.sipush 1200, 3) := by decide +kernel
theorem dq_Mod_init_44 : decode kb_Mod_init 44 = .ok (.newarray .int, 2) := by decide +kernel
theorem dq_Mod_init_46 : decode kb_Mod_init 46 = .ok (.putfield 22, 3) := by decide +kernel
theorem dq_Mod_init_49 : decode kb_Mod_init 49 = .ok (.aload_n 0, 1) := by decide +kernel
theorem dq_Mod_init_50 : decode kb_Mod_init 50 = .ok (.sipush 1200, 3) := by decide +kernel
theorem dq_Mod_init_53 : decode kb_Mod_init 53 = .ok (.newarray .int, 2) := by decide +kernel
theorem dq_Mod_init_55 : decode kb_Mod_init 55 = .ok (.putfield 25, 3) := by decide +kernel
theorem dq_Mod_init_58 : decode kb_Mod_init 58 = .ok (.return_, 1) := by decide +kernel
theorem dq_Mod_thrown_0 : decode kb_Mod_thrown 0 = .ok (.aload_n 0, 1) := by decide +kernel
theorem dq_Mod_thrown_1 : decode kb_Mod_thrown 1 = .ok (.getfield 28, 3) := by decide +kernel
theorem dq_Mod_thrown_4 : decode kb_Mod_thrown 4 = .ok (.ireturn, 1) := by decide +kernel
theorem dq_Mod_in_0 : decode kb_Mod_in 0 = .ok (.lload_n 0, 1) := by decide +kernel
theorem dq_Mod_in_1 : decode kb_Mod_in 1 = .ok (.lload_n 2, 1) := by decide +kernel
theorem dq_Mod_in_2 : decode kb_Mod_in 2 = .ok (.lcmp, 1) := by decide +kernel
theorem dq_Mod_in_3 : decode kb_Mod_in 3 = .ok (.ifCond .lt 14, 3) := by decide +kernel
theorem dq_Mod_in_6 : decode kb_Mod_in 6 = .ok (.lload_n 0, 1) := by decide +kernel
theorem dq_Mod_in_7 : decode kb_Mod_in 7 = .ok (.lload 4, 2) := by decide +kernel
theorem dq_Mod_in_9 : decode kb_Mod_in 9 = .ok (.lcmp, 1) := by decide +kernel
theorem dq_Mod_in_10 : decode kb_Mod_in 10 = .ok (.ifCond .gt 7, 3) := by decide +kernel
theorem dq_Mod_in_13 : decode kb_Mod_in 13 = .ok (.iconst 1, 1) := by decide +kernel
theorem dq_Mod_in_14 : decode kb_Mod_in 14 = .ok (.goto 4, 3) := by decide +kernel
theorem dq_Mod_in_17 : decode kb_Mod_in 17 = .ok (.iconst 0, 1) := by decide +kernel
theorem dq_Mod_in_18 : decode kb_Mod_in 18 = .ok (.ireturn, 1) := by decide +kernel
theorem dq_Mod_fails_0 : decode kb_Mod_fails 0 = .ok (.iload_n 1, 1) := by decide +kernel
theorem dq_Mod_fails_1 : decode kb_Mod_fails 1 = .ok (.ifCond .eq 15, 3) := by decide +kernel
theorem dq_Mod_fails_4 : decode kb_Mod_fails 4 = .ok (.aload_n 0, 1) := by decide +kernel
theorem dq_Mod_fails_5 : decode kb_Mod_fails 5 = .ok (.getfield 28, 3) := by decide +kernel
theorem dq_Mod_fails_8 : decode kb_Mod_fails 8 = .ok (.ifCond .ne 8, 3) := by decide +kernel
theorem dq_Mod_fails_11 : decode kb_Mod_fails 11 = .ok (.aload_n 0, 1) := by decide +kernel
theorem dq_Mod_fails_12 : decode kb_Mod_fails 12 = .ok (.iload_n 2, 1) := by decide +kernel
theorem dq_Mod_fails_13 : decode kb_Mod_fails 13 = .ok (.putfield 28, 3) := by decide +kernel
theorem dq_Mod_fails_16 : decode kb_Mod_fails 16 = .ok (.aload_n 0, 1) := by decide +kernel
theorem dq_Mod_fails_17 : decode kb_Mod_fails 17 = .ok (.getfield 28, 3) := by decide +kernel
theorem dq_Mod_fails_20 : decode kb_Mod_fails 20 = .ok (.ifCond .eq 7, 3) := by decide +kernel
theorem dq_Mod_fails_23 : decode kb_Mod_fails 23 = .ok (.iconst 1, 1) := by decide +kernel
theorem dq_Mod_fails_24 : decode kb_Mod_fails 24 = .ok (.goto 4, 3) := by decide +kernel
theorem dq_Mod_fails_27 : decode kb_Mod_fails 27 = .ok (.iconst 0, 1) := by decide +kernel
theorem dq_Mod_fails_28 : decode kb_Mod_fails 28 = .ok (.ireturn, 1) := by decide +kernel
theorem dq_Mod_set_0 : decode kb_Mod_set 0 = .ok (.aload_n 0, 1) := by decide +kernel
theorem dq_Mod_set_1 : decode kb_Mod_set 1 = .ok (.iconst 0, 1) := by decide +kernel
theorem dq_Mod_set_2 : decode kb_Mod_set 2 = .ok (.putfield 28, 3) := by decide +kernel
theorem dq_Mod_set_5 : decode kb_Mod_set 5 = .ok (.lload_n 1, 1) := by decide +kernel
theorem dq_Mod_set_6 : decode kb_Mod_set 6 = .ok (.bipush 52, 2) := by decide +kernel
theorem dq_Mod_set_8 : decode kb_Mod_set 8 = .ok (.lushr, 1) := by decide +kernel
theorem dq_Mod_set_9 : decode kb_Mod_set 9 = .ok (.l2i, 1) := by decide +kernel
theorem dq_Mod_set_10 : decode kb_Mod_set 10 = .ok (.sipush 2047, 3) := by decide +kernel
theorem dq_Mod_set_13 : decode kb_Mod_set 13 = .ok (.iand, 1) := by decide +kernel
theorem dq_Mod_set_14 : decode kb_Mod_set 14 = .ok (.istore_n 3, 1) := by decide +kernel
theorem dq_Mod_set_15 : decode kb_Mod_set 15 = .ok (.aload_n 0, 1) := by decide +kernel
theorem dq_Mod_set_16 : decode kb_Mod_set 16 = .ok (.iload_n 3, 1) := by decide +kernel
theorem dq_Mod_set_17 : decode kb_Mod_set 17 = .ok (.sipush 2047, 3) := by decide +kernel
theorem dq_Mod_set_20 : decode kb_Mod_set 20 = .ok (.if_icmp .ne 7, 3) := by decide +kernel
theorem dq_Mod_set_23 : decode kb_Mod_set 23 = .ok (.iconst 1, 1) := by decide +kernel
theorem dq_Mod_set_24 : decode kb_Mod_set 24 = .ok (.goto 4, 3) := by decide +kernel
theorem dq_Mod_set_27 : decode kb_Mod_set 27 = .ok (.iconst 0, 1) := by decide +kernel
theorem dq_Mod_set_28 : decode kb_Mod_set 28 = .ok (.iconst 1, 1) := by decide +kernel
theorem dq_Mod_set_29 : decode kb_Mod_set 29 = .ok (.invokevirtual 32, 3) := by decide +kernel
theorem dq_Mod_set_32 : decode kb_Mod_set 32 = .ok (.ifCond .eq 5, 3) := by decide +kernel
theorem dq_Mod_set_35 : decode kb_Mod_set 35 = .ok (.iconst 0, 1) := by decide +kernel
theorem dq_Mod_set_36 : decode kb_Mod_set 36 = .ok (.ireturn, 1) := by decide +kernel
theorem dq_Mod_set_37 : decode kb_Mod_set 37 = .ok (.lload_n 1, 1) := by decide +kernel
theorem dq_Mod_set_38 : decode kb_Mod_set 38 = .ok (.ldc2_w 36, 3) := by decide +kernel
theorem dq_Mod_set_41 : decode kb_Mod_set 41 = .ok (.land, 1) := by decide +kernel
theorem dq_Mod_set_42 : decode kb_Mod_set 42 = .ok (.iload_n 3, 1) := by decide +kernel
theorem dq_Mod_set_43 : decode kb_Mod_set 43 = .ok (.ifCond .le 9, 3) := by decide +kernel
theorem dq_Mod_set_46 : decode kb_Mod_set 46 = .ok (.ldc2_w 38, 3) := by decide +kernel
theorem dq_Mod_set_49 : decode kb_Mod_set 49 = .ok (.goto 4, 3) := by decide +kernel
theorem dq_Mod_set_52 : decode kb_Mod_set 52 = .ok (.lconst 0, 1) := by decide +kernel
theorem dq_Mod_set_53 : decode kb_Mod_set 53 = .ok (.lor, 1) := by decide +kernel
theorem dq_Mod_set_54 : decode kb_Mod_set 54 = .ok (.lstore 4, 2) := by decide +kernel
theorem dq_Mod_set_56 : decode kb_Mod_set 56 = .ok (.iload_n 3, 1) := by decide +kernel
theorem dq_Mod_set_57 : decode kb_Mod_set 57 = .ok (.ifCond .le 7, 3) := by decide +kernel
theorem dq_Mod_set_60 : decode kb_Mod_set 60 = .ok (.iload_n 3, 1) := by decide +kernel
theorem dq_Mod_set_61 : decode kb_Mod_set 61 = .ok (.goto 4, 3) := by decide +kernel
theorem dq_Mod_set_64 : decode kb_Mod_set 64 = .ok (.iconst 1, 1) := by decide +kernel
theorem dq_Mod_set_65 : decode kb_Mod_set 65 = .ok (.sipush 1075, 3) := by decide +kernel
theorem dq_Mod_set_68 : decode kb_Mod_set 68 = .ok (.isub, 1) := by decide +kernel
theorem dq_Mod_set_69 : decode kb_Mod_set 69 = .ok (.istore 6, 2) := by decide +kernel
theorem dq_Mod_set_71 : decode kb_Mod_set 71 = .ok (.aload_n 0, 1) := by decide +kernel
theorem dq_Mod_set_72 : decode kb_Mod_set 72 = .ok (.iconst 0, 1) := by decide +kernel
theorem dq_Mod_set_73 : decode kb_Mod_set 73 = .ok (.putfield 40, 3) := by decide +kernel
theorem dq_Mod_set_76 : decode kb_Mod_set 76 = .ok (.aload_n 0, 1) := by decide +kernel
theorem dq_Mod_set_77 : decode kb_Mod_set 77 = .ok (.iconst 0, 1) := by decide +kernel
theorem dq_Mod_set_78 : decode kb_Mod_set 78 = .ok (.putfield 43, 3) := by decide +kernel
theorem dq_Mod_set_81 : decode kb_Mod_set 81 = .ok (.lload 4, 2) := by decide +kernel
theorem dq_Mod_set_83 : decode kb_Mod_set 83 = .ok (.lstore 7, 2) := by decide +kernel
theorem dq_Mod_set_85 : decode kb_Mod_set 85 = .ok (.lload 7, 2) := by decide +kernel
theorem dq_Mod_set_87 : decode kb_Mod_set 87 = .ok (.lconst 0, 1) := by decide +kernel
theorem dq_Mod_set_88 : decode kb_Mod_set 88 = .ok (.lcmp, 1) := by decide +kernel
theorem dq_Mod_set_89 : decode kb_Mod_set 89 = .ok (.ifCond .le 24, 3) := by decide +kernel
theorem dq_Mod_set_92 : decode kb_Mod_set 92 = .ok (.aload_n 0, 1) := by decide +kernel
theorem dq_Mod_set_93 : decode kb_Mod_set 93 = .ok (.dup, 1) := by decide +kernel
theorem dq_Mod_set_94 : decode kb_Mod_set 94 = .ok (.getfield 40, 3) := by decide +kernel
theorem dq_Mod_set_97 : decode kb_Mod_set 97 = .ok (.iconst 1, 1) := by decide +kernel
theorem dq_Mod_set_98 : decode kb_Mod_set 98 = .ok (.iadd, 1) := by decide +kernel
theorem dq_Mod_set_99 : decode kb_Mod_set 99 = .ok (.putfield 40, 3) := by decide +kernel
theorem dq_Mod_set_102 : decode kb_Mod_set 102 = .ok (.lload 7, 2) := by decide +kernel
theorem dq_Mod_set_104 : decode kb_Mod_set 104 = .ok (.ldc2_w 46, 3) := by decide +kernel
theorem dq_Mod_set_107 : decode kb_Mod_set 107 = .ok (.ldiv, 1) := by decide +kernel
theorem dq_Mod_set_108 : decode kb_Mod_set 108 = .ok (.lstore 7, 2) := by decide +kernel
theorem dq_Mod_set_110 : decode kb_Mod_set 110 = .ok (.goto (-25), 3) := by decide +kernel
theorem dq_Mod_set_113 : decode kb_Mod_set 113 = .ok (.lload 4, 2) := by decide +kernel
theorem dq_Mod_set_115 : decode kb_Mod_set 115 = .ok (.lstore 7, 2) := by decide +kernel
theorem dq_Mod_set_117 : decode kb_Mod_set 117 = .ok (.aload_n 0, 1) := by decide +kernel
theorem dq_Mod_set_118 : decode kb_Mod_set 118 = .ok (.getfield 40, 3) := by decide +kernel
theorem dq_Mod_set_121 : decode kb_Mod_set 121 = .ok (.iconst 1, 1) := by decide +kernel
theorem dq_Mod_set_122 : decode kb_Mod_set 122 = .ok (.isub, 1) := by decide +kernel
theorem dq_Mod_set_123 : decode kb_Mod_set 123 = .ok (.istore 9, 2) := by decide +kernel
theorem dq_Mod_set_125 : decode kb_Mod_set 125 = .ok (.iload 9, 2) := by decide +kernel
theorem dq_Mod_set_127 : decode kb_Mod_set 127 = .ok (.ifCond .lt 31, 3) := by decide +kernel
theorem dq_Mod_set_130 : decode kb_Mod_set 130 = .ok (.aload_n 0, 1) := by decide +kernel
theorem dq_Mod_set_131 : decode kb_Mod_set 131 = .ok (.getfield 13, 3) := by decide +kernel
theorem dq_Mod_set_134 : decode kb_Mod_set 134 = .ok (.iload 9, 2) := by decide +kernel
theorem dq_Mod_set_136 : decode kb_Mod_set 136 = .ok (.lload 7, 2) := by decide +kernel
theorem dq_Mod_set_138 : decode kb_Mod_set 138 = .ok (.ldc2_w 46, 3) := by decide +kernel
theorem dq_Mod_set_141 : decode kb_Mod_set 141 = .ok (.lrem, 1) := by decide +kernel
theorem dq_Mod_set_142 : decode kb_Mod_set 142 = .ok (.l2i, 1) := by decide +kernel
theorem dq_Mod_set_143 : decode kb_Mod_set 143 = .ok (.iastore, 1) := by decide +kernel
theorem dq_Mod_set_144 : decode kb_Mod_set 144 = .ok (.lload 7, 2) := by decide +kernel
theorem dq_Mod_set_146 : decode kb_Mod_set 146 = .ok (.ldc2_w 46, 3) := by decide +kernel
theorem dq_Mod_set_149 : decode kb_Mod_set 149 = .ok (.ldiv, 1) := by decide +kernel
theorem dq_Mod_set_150 : decode kb_Mod_set 150 = .ok (.lstore 7, 2) := by decide +kernel
theorem dq_Mod_set_152 : decode kb_Mod_set 152 = .ok (.iinc 9 (-1), 3) := by decide +kernel
theorem dq_Mod_set_155 : decode kb_Mod_set 155 = .ok (.goto (-30), 3) := by decide +kernel
theorem dq_Mod_set_158 : decode kb_Mod_set 158 = .ok (.iload 6, 2) := by decide +kernel
theorem dq_Mod_set_160 : decode kb_Mod_set 160 = .ok (.ifCond .le 20, 3) := by decide +kernel
theorem dq_Mod_set_163 : decode kb_Mod_set 163 = .ok (.aload_n 0, 1) := by decide +kernel
theorem dq_Mod_set_164 : decode kb_Mod_set 164 = .ok (.getfield 40, 3) := by decide +kernel
theorem dq_Mod_set_167 : decode kb_Mod_set 167 = .ok (.ifCond .le 13, 3) := by decide +kernel
theorem dq_Mod_set_170 : decode kb_Mod_set 170 = .ok (.aload_n 0, 1) := by decide +kernel
theorem dq_Mod_set_171 : decode kb_Mod_set 171 = .ok (.invokevirtual 48, 3) := by decide +kernel
theorem dq_Mod_set_174 : decode kb_Mod_set 174 = .ok (.iinc 6 (-1), 3) := by decide +kernel
theorem dq_Mod_set_177 : decode kb_Mod_set 177 = .ok (.goto (-19), 3) := by decide +kernel
theorem dq_Mod_set_180 : decode kb_Mod_set 180 = .ok (.iload 6, 2) := by decide +kernel
theorem dq_Mod_set_182 : decode kb_Mod_set 182 = .ok (.ifCond .ge 20, 3) := by decide +kernel
theorem dq_Mod_set_185 : decode kb_Mod_set 185 = .ok (.aload_n 0, 1) := by decide +kernel
theorem dq_Mod_set_186 : decode kb_Mod_set 186 = .ok (.getfield 40, 3) := by decide +kernel
theorem dq_Mod_set_189 : decode kb_Mod_set 189 = .ok (.ifCond .le 13, 3) := by decide +kernel
theorem dq_Mod_set_192 : decode kb_Mod_set 192 = .ok (.aload_n 0, 1) := by decide +kernel
theorem dq_Mod_set_193 : decode kb_Mod_set 193 = .ok (.invokevirtual 51, 3) := by decide +kernel
theorem dq_Mod_set_196 : decode kb_Mod_set 196 = .ok (.iinc 6 1, 3) := by decide +kernel
theorem dq_Mod_set_199 : decode kb_Mod_set 199 = .ok (.goto (-19), 3) := by decide +kernel
theorem dq_Mod_set_202 : decode kb_Mod_set 202 = .ok (.aload_n 0, 1) := by decide +kernel
theorem dq_Mod_set_203 : decode kb_Mod_set 203 = .ok (.lload_n 1, 1) := by decide +kernel
theorem dq_Mod_set_204 : decode kb_Mod_set 204 = .ok (.lconst 0, 1) := by decide +kernel
theorem dq_Mod_set_205 : decode kb_Mod_set 205 = .ok (.lcmp, 1) := by decide +kernel
theorem dq_Mod_set_206 : decode kb_Mod_set 206 = .ok (.ifCond .ge 7, 3) := by decide +kernel
theorem dq_Mod_set_209 : decode kb_Mod_set 209 = .ok (.iconst 1, 1) := by decide +kernel
theorem dq_Mod_set_210 : decode kb_Mod_set 210 = .ok (.goto 4, 3) := by decide +kernel
theorem dq_Mod_set_213 : decode kb_Mod_set 213 = .ok (.iconst 0, 1) := by decide +kernel
theorem dq_Mod_set_214 : decode kb_Mod_set 214 = .ok (.putfield 54, 3) := by decide +kernel
theorem dq_Mod_set_217 : decode kb_Mod_set 217 = .ok (.aload_n 0, 1) := by decide +kernel
theorem dq_Mod_set_218 : decode kb_Mod_set 218 = .ok (.invokevirtual 58, 3) := by decide +kernel
theorem dq_Mod_set_221 : decode kb_Mod_set 221 = .ok (.aload_n 0, 1) := by decide +kernel
theorem dq_Mod_set_222 : decode kb_Mod_set 222 = .ok (.getfield 61, 3) := by decide +kernel
theorem dq_Mod_set_225 : decode kb_Mod_set 225 = .ok (.ireturn, 1) := by decide +kernel
theorem dq_Mod_twice_0 : decode kb_Mod_twice 0 = .ok (.iconst 0, 1) := by decide +kernel
theorem dq_Mod_twice_1 : decode kb_Mod_twice 1 = .ok (.istore_n 1, 1) := by decide +kernel
theorem dq_Mod_twice_2 : decode kb_Mod_twice 2 = .ok (.aload_n 0, 1) := by decide +kernel
theorem dq_Mod_twice_3 : decode kb_Mod_twice 3 = .ok (.getfield 40, 3) := by decide +kernel
theorem dq_Mod_twice_6 : decode kb_Mod_twice 6 = .ok (.iconst 1, 1) := by decide +kernel
theorem dq_Mod_twice_7 : decode kb_Mod_twice 7 = .ok (.isub, 1) := by decide +kernel
theorem dq_Mod_twice_8 : decode kb_Mod_twice 8 = .ok (.istore_n 2, 1) := by decide +kernel
theorem dq_Mod_twice_9 : decode kb_Mod_twice 9 = .ok (.iload_n 2, 1) := by decide +kernel
theorem dq_Mod_twice_10 : decode kb_Mod_twice 10 = .ok (.ifCond .lt 35, 3) := by decide +kernel
theorem dq_Mod_twice_13 : decode kb_Mod_twice 13 = .ok (.iconst 2, 1) := by decide +kernel
theorem dq_Mod_twice_14 : decode kb_Mod_twice 14 = .ok (.aload_n 0, 1) := by decide +kernel
theorem dq_Mod_twice_15 : decode kb_Mod_twice 15 = .ok (.getfield 13, 3) := by decide +kernel
theorem dq_Mod_twice_18 : decode kb_Mod_twice 18 = .ok (.iload_n 2, 1) := by decide +kernel
theorem dq_Mod_twice_19 : decode kb_Mod_twice 19 = .ok (.iaload, 1) := by decide +kernel
theorem dq_Mod_twice_20 : decode kb_Mod_twice 20 = .ok (.imul, 1) := by decide +kernel
theorem dq_Mod_twice_21 : decode kb_Mod_twice 21 = .ok (.iload_n 1, 1) := by decide +kernel
theorem dq_Mod_twice_22 : decode kb_Mod_twice 22 = .ok (.iadd, 1) := by decide +kernel
theorem dq_Mod_twice_23 : decode kb_Mod_twice 23 = .ok (.istore_n 3, 1) := by decide +kernel
theorem dq_Mod_twice_24 : decode kb_Mod_twice 24 = .ok (.aload_n 0, 1) := by decide +kernel
theorem dq_Mod_twice_25 : decode kb_Mod_twice 25 = .ok (.getfield 13, 3) := by decide +kernel
theorem dq_Mod_twice_28 : decode kb_Mod_twice 28 = .ok (.iload_n 2, 1) := by decide +kernel
theorem dq_Mod_twice_29 : decode kb_Mod_twice 29 = .ok (.iload_n 3, 1) := by decide +kernel
theorem dq_Mod_twice_30 : decode kb_Mod_twice 30 = .ok (.bipush 10, 2) := by decide +kernel
theorem dq_Mod_twice_32 : decode kb_Mod_twice 32 = .ok (.irem, 1) := by decide +kernel
theorem dq_Mod_twice_33 : decode kb_Mod_twice 33 = .ok (.iastore, 1) := by decide +kernel
theorem dq_Mod_twice_34 : decode kb_Mod_twice 34 = .ok (.iload_n 3, 1) := by decide +kernel
theorem dq_Mod_twice_35 : decode kb_Mod_twice 35 = .ok (.bipush 10, 2) := by decide +kernel
theorem dq_Mod_twice_37 : decode kb_Mod_twice 37 = .ok (.idiv, 1) := by decide +kernel
theorem dq_Mod_twice_38 : decode kb_Mod_twice 38 = .ok (.istore_n 1, 1) := by decide +kernel
theorem dq_Mod_twice_39 : decode kb_Mod_twice 39 = .ok (.iinc 2 (-1), 3) := by decide +kernel
theorem dq_Mod_twice_42 : decode kb_Mod_twice 42 = .ok (.goto (-33), 3) := by decide +kernel
theorem dq_Mod_twice_45 : decode kb_Mod_twice 45 = .ok (.iload_n 1, 1) := by decide +kernel
theorem dq_Mod_twice_46 : decode kb_Mod_twice 46 = .ok (.ifCond .le 49, 3) := by decide +kernel
theorem dq_Mod_twice_49 : decode kb_Mod_twice 49 = .ok (.aload_n 0, 1) := by decide +kernel
theorem dq_Mod_twice_50 : decode kb_Mod_twice 50 = .ok (.getfield 40, 3) := by decide +kernel
theorem dq_Mod_twice_53 : decode kb_Mod_twice 53 = .ok (.istore_n 2, 1) := by decide +kernel
theorem dq_Mod_twice_54 : decode kb_Mod_twice 54 = .ok (.iload_n 2, 1) := by decide +kernel
theorem dq_Mod_twice_55 : decode kb_Mod_twice 55 = .ok (.ifCond .le 23, 3) := by decide +kernel
theorem dq_Mod_twice_58 : decode kb_Mod_twice 58 = .ok (.aload_n 0, 1) := by decide +kernel
theorem dq_Mod_twice_59 : decode kb_Mod_twice 59 = .ok (.getfield 13, 3) := by decide +kernel
theorem dq_Mod_twice_62 : decode kb_Mod_twice 62 = .ok (.iload_n 2, 1) := by decide +kernel
theorem dq_Mod_twice_63 : decode kb_Mod_twice 63 = .ok (.aload_n 0, 1) := by decide +kernel
theorem dq_Mod_twice_64 : decode kb_Mod_twice 64 = .ok (.getfield 13, 3) := by decide +kernel
theorem dq_Mod_twice_67 : decode kb_Mod_twice 67 = .ok (.iload_n 2, 1) := by decide +kernel
theorem dq_Mod_twice_68 : decode kb_Mod_twice 68 = .ok (.iconst 1, 1) := by decide +kernel
theorem dq_Mod_twice_69 : decode kb_Mod_twice 69 = .ok (.isub, 1) := by decide +kernel
theorem dq_Mod_twice_70 : decode kb_Mod_twice 70 = .ok (.iaload, 1) := by decide +kernel
theorem dq_Mod_twice_71 : decode kb_Mod_twice 71 = .ok (.iastore, 1) := by decide +kernel
theorem dq_Mod_twice_72 : decode kb_Mod_twice 72 = .ok (.iinc 2 (-1), 3) := by decide +kernel
theorem dq_Mod_twice_75 : decode kb_Mod_twice 75 = .ok (.goto (-21), 3) := by decide +kernel
theorem dq_Mod_twice_78 : decode kb_Mod_twice 78 = .ok (.aload_n 0, 1) := by decide +kernel
theorem dq_Mod_twice_79 : decode kb_Mod_twice 79 = .ok (.getfield 13, 3) := by decide +kernel
theorem dq_Mod_twice_82 : decode kb_Mod_twice 82 = .ok (.iconst 0, 1) := by decide +kernel
theorem dq_Mod_twice_83 : decode kb_Mod_twice 83 = .ok (.iload_n 1, 1) := by decide +kernel
theorem dq_Mod_twice_84 : decode kb_Mod_twice 84 = .ok (.iastore, 1) := by decide +kernel
theorem dq_Mod_twice_85 : decode kb_Mod_twice 85 = .ok (.aload_n 0, 1) := by decide +kernel
theorem dq_Mod_twice_86 : decode kb_Mod_twice 86 = .ok (.dup, 1) := by decide +kernel
theorem dq_Mod_twice_87 : decode kb_Mod_twice 87 = .ok (.getfield 40, 3) := by decide +kernel
theorem dq_Mod_twice_90 : decode kb_Mod_twice 90 = .ok (.iconst 1, 1) := by decide +kernel
theorem dq_Mod_twice_91 : decode kb_Mod_twice 91 = .ok (.iadd, 1) := by decide +kernel
theorem dq_Mod_twice_92 : decode kb_Mod_twice 92 = .ok (.putfield 40, 3) := by decide +kernel
theorem dq_Mod_twice_95 : decode kb_Mod_twice 95 = .ok (.return_, 1) := by decide +kernel
theorem dq_Mod_half_0 : decode kb_Mod_half 0 = .ok (.iconst 0, 1) := by decide +kernel
theorem dq_Mod_half_1 : decode kb_Mod_half 1 = .ok (.istore_n 1, 1) := by decide +kernel
theorem dq_Mod_half_2 : decode kb_Mod_half 2 = .ok (.iconst 0, 1) := by decide +kernel
theorem dq_Mod_half_3 : decode kb_Mod_half 3 = .ok (.istore_n 2, 1) := by decide +kernel
theorem dq_Mod_half_4 : decode kb_Mod_half 4 = .ok (.iload_n 2, 1) := by decide +kernel
theorem dq_Mod_half_5 : decode kb_Mod_half 5 = .ok (.aload_n 0, 1) := by decide +kernel
theorem dq_Mod_half_6 : decode kb_Mod_half 6 = .ok (.getfield 40, 3) := by decide +kernel
theorem dq_Mod_half_9 : decode kb_Mod_half 9 = .ok (.if_icmp .ge 34, 3) := by decide +kernel
theorem dq_Mod_half_12 : decode kb_Mod_half 12 = .ok (.bipush 10, 2) := by decide +kernel
theorem dq_Mod_half_14 : decode kb_Mod_half 14 = .ok (.iload_n 1, 1) := by decide +kernel
theorem dq_Mod_half_15 : decode kb_Mod_half 15 = .ok (.imul, 1) := by decide +kernel
theorem dq_Mod_half_16 : decode kb_Mod_half 16 = .ok (.aload_n 0, 1) := by decide +kernel
theorem dq_Mod_half_17 : decode kb_Mod_half 17 = .ok (.getfield 13, 3) := by decide +kernel
theorem dq_Mod_half_20 : decode kb_Mod_half 20 = .ok (.iload_n 2, 1) := by decide +kernel
theorem dq_Mod_half_21 : decode kb_Mod_half 21 = .ok (.iaload, 1) := by decide +kernel
theorem dq_Mod_half_22 : decode kb_Mod_half 22 = .ok (.iadd, 1) := by decide +kernel
theorem dq_Mod_half_23 : decode kb_Mod_half 23 = .ok (.istore_n 3, 1) := by decide +kernel
theorem dq_Mod_half_24 : decode kb_Mod_half 24 = .ok (.aload_n 0, 1) := by decide +kernel
theorem dq_Mod_half_25 : decode kb_Mod_half 25 = .ok (.getfield 13, 3) := by decide +kernel
theorem dq_Mod_half_28 : decode kb_Mod_half 28 = .ok (.iload_n 2, 1) := by decide +kernel
theorem dq_Mod_half_29 : decode kb_Mod_half 29 = .ok (.iload_n 3, 1) := by decide +kernel
theorem dq_Mod_half_30 : decode kb_Mod_half 30 = .ok (.iconst 2, 1) := by decide +kernel
theorem dq_Mod_half_31 : decode kb_Mod_half 31 = .ok (.idiv, 1) := by decide +kernel
theorem dq_Mod_half_32 : decode kb_Mod_half 32 = .ok (.iastore, 1) := by decide +kernel
theorem dq_Mod_half_33 : decode kb_Mod_half 33 = .ok (.iload_n 3, 1) := by decide +kernel
theorem dq_Mod_half_34 : decode kb_Mod_half 34 = .ok (.iconst 2, 1) := by decide +kernel
theorem dq_Mod_half_35 : decode kb_Mod_half 35 = .ok (.irem, 1) := by decide +kernel
theorem dq_Mod_half_36 : decode kb_Mod_half 36 = .ok (.istore_n 1, 1) := by decide +kernel
theorem dq_Mod_half_37 : decode kb_Mod_half 37 = .ok (.iinc 2 1, 3) := by decide +kernel
theorem dq_Mod_half_40 : decode kb_Mod_half 40 = .ok (.goto (-36), 3) := by decide +kernel
theorem dq_Mod_half_43 : decode kb_Mod_half 43 = .ok (.iload_n 1, 1) := by decide +kernel
theorem dq_Mod_half_44 : decode kb_Mod_half 44 = .ok (.ifCond .le 30, 3) := by decide +kernel
theorem dq_Mod_half_47 : decode kb_Mod_half 47 = .ok (.aload_n 0, 1) := by decide +kernel
theorem dq_Mod_half_48 : decode kb_Mod_half 48 = .ok (.getfield 13, 3) := by decide +kernel
theorem dq_Mod_half_51 : decode kb_Mod_half 51 = .ok (.aload_n 0, 1) := by decide +kernel
theorem dq_Mod_half_52 : decode kb_Mod_half 52 = .ok (.dup, 1) := by decide +kernel
theorem dq_Mod_half_53 : decode kb_Mod_half 53 = .ok (.getfield 40, 3) := by decide +kernel
theorem dq_Mod_half_56 : decode kb_Mod_half 56 = .ok (.dup_x1, 1) := by decide +kernel
theorem dq_Mod_half_57 : decode kb_Mod_half 57 = .ok (.iconst 1, 1) := by decide +kernel
theorem dq_Mod_half_58 : decode kb_Mod_half 58 = .ok (.iadd, 1) := by decide +kernel
theorem dq_Mod_half_59 : decode kb_Mod_half 59 = .ok (.putfield 40, 3) := by decide +kernel
theorem dq_Mod_half_62 : decode kb_Mod_half 62 = .ok (.iconst 5, 1) := by decide +kernel
theorem dq_Mod_half_63 : decode kb_Mod_half 63 = .ok (.iastore, 1) := by decide +kernel
theorem dq_Mod_half_64 : decode kb_Mod_half 64 = .ok (.aload_n 0, 1) := by decide +kernel
theorem dq_Mod_half_65 : decode kb_Mod_half 65 = .ok (.dup, 1) := by decide +kernel
theorem dq_Mod_half_66 : decode kb_Mod_half 66 = .ok (.getfield 43, 3) := by decide +kernel
theorem dq_Mod_half_69 : decode kb_Mod_half 69 = .ok (.iconst 1, 1) := by decide +kernel
theorem dq_Mod_half_70 : decode kb_Mod_half 70 = .ok (.iadd, 1) := by decide +kernel
theorem dq_Mod_half_71 : decode kb_Mod_half 71 = .ok (.putfield 43, 3) := by decide +kernel
theorem dq_Mod_half_74 : decode kb_Mod_half 74 = .ok (.aload_n 0, 1) := by decide +kernel
theorem dq_Mod_half_75 : decode kb_Mod_half 75 = .ok (.getfield 13, 3) := by decide +kernel
theorem dq_Mod_half_78 : decode kb_Mod_half 78 = .ok (.iconst 0, 1) := by decide +kernel
theorem dq_Mod_half_79 : decode kb_Mod_half 79 = .ok (.iaload, 1) := by decide +kernel
theorem dq_Mod_half_80 : decode kb_Mod_half 80 = .ok (.ifCond .ne 43, 3) := by decide +kernel
theorem dq_Mod_half_83 : decode kb_Mod_half 83 = .ok (.iconst 1, 1) := by decide +kernel
theorem dq_Mod_half_84 : decode kb_Mod_half 84 = .ok (.istore_n 2, 1) := by decide +kernel
theorem dq_Mod_half_85 : decode kb_Mod_half 85 = .ok (.iload_n 2, 1) := by decide +kernel
theorem dq_Mod_half_86 : decode kb_Mod_half 86 = .ok (.aload_n 0, 1) := by decide +kernel
theorem dq_Mod_half_87 : decode kb_Mod_half 87 = .ok (.getfield 40, 3) := by decide +kernel
theorem dq_Mod_half_90 : decode kb_Mod_half 90 = .ok (.if_icmp .ge 23, 3) := by decide +kernel
theorem dq_Mod_half_93 : decode kb_Mod_half 93 = .ok (.aload_n 0, 1) := by decide +kernel
theorem dq_Mod_half_94 : decode kb_Mod_half 94 = .ok (.getfield 13, 3) := by decide +kernel
theorem dq_Mod_half_97 : decode kb_Mod_half 97 = .ok (.iload_n 2, 1) := by decide +kernel
theorem dq_Mod_half_98 : decode kb_Mod_half 98 = .ok (.iconst 1, 1) := by decide +kernel
theorem dq_Mod_half_99 : decode kb_Mod_half 99 = .ok (.isub, 1) := by decide +kernel
theorem dq_Mod_half_100 : decode kb_Mod_half 100 = .ok (.aload_n 0, 1) := by decide +kernel
theorem dq_Mod_half_101 : decode kb_Mod_half 101 = .ok (.getfield 13, 3) := by decide +kernel
theorem dq_Mod_half_104 : decode kb_Mod_half 104 = .ok (.iload_n 2, 1) := by decide +kernel
theorem dq_Mod_half_105 : decode kb_Mod_half 105 = .ok (.iaload, 1) := by decide +kernel
theorem dq_Mod_half_106 : decode kb_Mod_half 106 = .ok (.iastore, 1) := by decide +kernel
theorem dq_Mod_half_107 : decode kb_Mod_half 107 = .ok (.iinc 2 1, 3) := by decide +kernel
theorem dq_Mod_half_110 : decode kb_Mod_half 110 = .ok (.goto (-25), 3) := by decide +kernel
theorem dq_Mod_half_113 : decode kb_Mod_half 113 = .ok (.aload_n 0, 1) := by decide +kernel
theorem dq_Mod_half_114 : decode kb_Mod_half 114 = .ok (.dup, 1) := by decide +kernel
theorem dq_Mod_half_115 : decode kb_Mod_half 115 = .ok (.getfield 40, 3) := by decide +kernel
theorem dq_Mod_half_118 : decode kb_Mod_half 118 = .ok (.iconst 1, 1) := by decide +kernel
theorem dq_Mod_half_119 : decode kb_Mod_half 119 = .ok (.isub, 1) := by decide +kernel
theorem dq_Mod_half_120 : decode kb_Mod_half 120 = .ok (.putfield 40, 3) := by decide +kernel
theorem dq_Mod_half_123 : decode kb_Mod_half 123 = .ok (.return_, 1) := by decide +kernel
theorem dq_Mod_keep_0 : decode kb_Mod_keep 0 = .ok (.aload_n 0, 1) := by decide +kernel
theorem dq_Mod_keep_1 : decode kb_Mod_keep 1 = .ok (.aload_n 0, 1) := by decide +kernel
theorem dq_Mod_keep_2 : decode kb_Mod_keep 2 = .ok (.getfield 40, 3) := by decide +kernel
theorem dq_Mod_keep_5 : decode kb_Mod_keep 5 = .ok (.aload_n 0, 1) := by decide +kernel
theorem dq_Mod_keep_6 : decode kb_Mod_keep 6 = .ok (.getfield 43, 3) := by decide +kernel
theorem dq_Mod_keep_9 : decode kb_Mod_keep 9 = .ok (.isub, 1) := by decide +kernel
theorem dq_Mod_keep_10 : decode kb_Mod_keep 10 = .ok (.putfield 64, 3) := by decide +kernel
theorem dq_Mod_keep_13 : decode kb_Mod_keep 13 = .ok (.iconst 0, 1) := by decide +kernel
theorem dq_Mod_keep_14 : decode kb_Mod_keep 14 = .ok (.istore_n 1, 1) := by decide +kernel
theorem dq_Mod_keep_15 : decode kb_Mod_keep 15 = .ok (.iload_n 1, 1) := by decide +kernel
theorem dq_Mod_keep_16 : decode kb_Mod_keep 16 = .ok (.aload_n 0, 1) := by decide +kernel
theorem dq_Mod_keep_17 : decode kb_Mod_keep 17 = .ok (.getfield 40, 3) := by decide +kernel
theorem dq_Mod_keep_20 : decode kb_Mod_keep 20 = .ok (.if_icmp .ge 18, 3) := by decide +kernel
theorem dq_Mod_keep_23 : decode kb_Mod_keep 23 = .ok (.aload_n 0, 1) := by decide +kernel
theorem dq_Mod_keep_24 : decode kb_Mod_keep 24 = .ok (.getfield 13, 3) := by decide +kernel
theorem dq_Mod_keep_27 : decode kb_Mod_keep 27 = .ok (.iload_n 1, 1) := by decide +kernel
theorem dq_Mod_keep_28 : decode kb_Mod_keep 28 = .ok (.iaload, 1) := by decide +kernel
theorem dq_Mod_keep_29 : decode kb_Mod_keep 29 = .ok (.ifCond .ne 9, 3) := by decide +kernel
theorem dq_Mod_keep_32 : decode kb_Mod_keep 32 = .ok (.iinc 1 1, 3) := by decide +kernel
theorem dq_Mod_keep_35 : decode kb_Mod_keep 35 = .ok (.goto (-20), 3) := by decide +kernel
theorem dq_Mod_keep_38 : decode kb_Mod_keep 38 = .ok (.aload_n 0, 1) := by decide +kernel
theorem dq_Mod_keep_39 : decode kb_Mod_keep 39 = .ok (.getfield 40, 3) := by decide +kernel
theorem dq_Mod_keep_42 : decode kb_Mod_keep 42 = .ok (.istore_n 2, 1) := by decide +kernel
theorem dq_Mod_keep_43 : decode kb_Mod_keep 43 = .ok (.iload_n 2, 1) := by decide +kernel
theorem dq_Mod_keep_44 : decode kb_Mod_keep 44 = .ok (.iload_n 1, 1) := by decide +kernel
theorem dq_Mod_keep_45 : decode kb_Mod_keep 45 = .ok (.if_icmp .le 20, 3) := by decide +kernel
theorem dq_Mod_keep_48 : decode kb_Mod_keep 48 = .ok (.aload_n 0, 1) := by decide +kernel
theorem dq_Mod_keep_49 : decode kb_Mod_keep 49 = .ok (.getfield 13, 3) := by decide +kernel
theorem dq_Mod_keep_52 : decode kb_Mod_keep 52 = .ok (.iload_n 2, 1) := by decide +kernel
theorem dq_Mod_keep_53 : decode kb_Mod_keep 53 = .ok (.iconst 1, 1) := by decide +kernel
theorem dq_Mod_keep_54 : decode kb_Mod_keep 54 = .ok (.isub, 1) := by decide +kernel
theorem dq_Mod_keep_55 : decode kb_Mod_keep 55 = .ok (.iaload, 1) := by decide +kernel
theorem dq_Mod_keep_56 : decode kb_Mod_keep 56 = .ok (.ifCond .ne 9, 3) := by decide +kernel
theorem dq_Mod_keep_59 : decode kb_Mod_keep 59 = .ok (.iinc 2 (-1), 3) := by decide +kernel
theorem dq_Mod_keep_62 : decode kb_Mod_keep 62 = .ok (.goto (-19), 3) := by decide +kernel
theorem dq_Mod_keep_65 : decode kb_Mod_keep 65 = .ok (.aload_n 0, 1) := by decide +kernel
theorem dq_Mod_keep_66 : decode kb_Mod_keep 66 = .ok (.iload_n 2, 1) := by decide +kernel
theorem dq_Mod_keep_67 : decode kb_Mod_keep 67 = .ok (.iload_n 1, 1) := by decide +kernel
theorem dq_Mod_keep_68 : decode kb_Mod_keep 68 = .ok (.isub, 1) := by decide +kernel
theorem dq_Mod_keep_69 : decode kb_Mod_keep 69 = .ok (.putfield 61, 3) := by decide +kernel
theorem dq_Mod_keep_72 : decode kb_Mod_keep 72 = .ok (.iconst 0, 1) := by decide +kernel
theorem dq_Mod_keep_73 : decode kb_Mod_keep 73 = .ok (.istore_n 3, 1) := by decide +kernel
theorem dq_Mod_keep_74 : decode kb_Mod_keep 74 = .ok (.iload_n 3, 1) := by decide +kernel
theorem dq_Mod_keep_75 : decode kb_Mod_keep 75 = .ok (.aload_n 0, 1) := by decide +kernel
theorem dq_Mod_keep_76 : decode kb_Mod_keep 76 = .ok (.getfield 61, 3) := by decide +kernel
theorem dq_Mod_keep_79 : decode kb_Mod_keep 79 = .ok (.if_icmp .ge 23, 3) := by decide +kernel
theorem dq_Mod_keep_82 : decode kb_Mod_keep 82 = .ok (.aload_n 0, 1) := by decide +kernel
theorem dq_Mod_keep_83 : decode kb_Mod_keep 83 = .ok (.getfield 9, 3) := by decide +kernel
theorem dq_Mod_keep_86 : decode kb_Mod_keep 86 = .ok (.iload_n 3, 1) := by decide +kernel
theorem dq_Mod_keep_87 : decode kb_Mod_keep 87 = .ok (.aload_n 0, 1) := by decide +kernel
theorem dq_Mod_keep_88 : decode kb_Mod_keep 88 = .ok (.getfield 13, 3) := by decide +kernel
theorem dq_Mod_keep_91 : decode kb_Mod_keep 91 = .ok (.iload_n 1, 1) := by decide +kernel
theorem dq_Mod_keep_92 : decode kb_Mod_keep 92 = .ok (.iload_n 3, 1) := by decide +kernel
theorem dq_Mod_keep_93 : decode kb_Mod_keep 93 = .ok (.iadd, 1) := by decide +kernel
theorem dq_Mod_keep_94 : decode kb_Mod_keep 94 = .ok (.iaload, 1) := by decide +kernel
theorem dq_Mod_keep_95 : decode kb_Mod_keep 95 = .ok (.iastore, 1) := by decide +kernel
theorem dq_Mod_keep_96 : decode kb_Mod_keep 96 = .ok (.iinc 3 1, 3) := by decide +kernel
theorem dq_Mod_keep_99 : decode kb_Mod_keep 99 = .ok (.goto (-25), 3) := by decide +kernel
theorem dq_Mod_keep_102 : decode kb_Mod_keep 102 = .ok (.aload_n 0, 1) := by decide +kernel
theorem dq_Mod_keep_103 : decode kb_Mod_keep 103 = .ok (.aload_n 0, 1) := by decide +kernel
theorem dq_Mod_keep_104 : decode kb_Mod_keep 104 = .ok (.getfield 61, 3) := by decide +kernel
theorem dq_Mod_keep_107 : decode kb_Mod_keep 107 = .ok (.ifCond .le 12, 3) := by decide +kernel
theorem dq_Mod_keep_110 : decode kb_Mod_keep 110 = .ok (.aload_n 0, 1) := by decide +kernel
theorem dq_Mod_keep_111 : decode kb_Mod_keep 111 = .ok (.getfield 64, 3) := by decide +kernel
theorem dq_Mod_keep_114 : decode kb_Mod_keep 114 = .ok (.iload_n 1, 1) := by decide +kernel
theorem dq_Mod_keep_115 : decode kb_Mod_keep 115 = .ok (.isub, 1) := by decide +kernel
theorem dq_Mod_keep_116 : decode kb_Mod_keep 116 = .ok (.goto 4, 3) := by decide +kernel
theorem dq_Mod_keep_119 : decode kb_Mod_keep 119 = .ok (.iconst 0, 1) := by decide +kernel
theorem dq_Mod_keep_120 : decode kb_Mod_keep 120 = .ok (.putfield 64, 3) := by decide +kernel
theorem dq_Mod_keep_123 : decode kb_Mod_keep 123 = .ok (.aload_n 0, 1) := by decide +kernel
theorem dq_Mod_keep_124 : decode kb_Mod_keep 124 = .ok (.iconst 0, 1) := by decide +kernel
theorem dq_Mod_keep_125 : decode kb_Mod_keep 125 = .ok (.putfield 67, 3) := by decide +kernel
theorem dq_Mod_keep_128 : decode kb_Mod_keep 128 = .ok (.aload_n 0, 1) := by decide +kernel
theorem dq_Mod_keep_129 : decode kb_Mod_keep 129 = .ok (.iconst 0, 1) := by decide +kernel
theorem dq_Mod_keep_130 : decode kb_Mod_keep 130 = .ok (.putfield 70, 3) := by decide +kernel
theorem dq_Mod_keep_133 : decode kb_Mod_keep 133 = .ok (.return_, 1) := by decide +kernel
theorem dq_Mod_digit_0 : decode kb_Mod_digit 0 = .ok (.aload_n 0, 1) := by decide +kernel
theorem dq_Mod_digit_1 : decode kb_Mod_digit 1 = .ok (.iconst 0, 1) := by decide +kernel
theorem dq_Mod_digit_2 : decode kb_Mod_digit 2 = .ok (.putfield 28, 3) := by decide +kernel
theorem dq_Mod_digit_5 : decode kb_Mod_digit 5 = .ok (.aload_n 0, 1) := by decide +kernel
theorem dq_Mod_digit_6 : decode kb_Mod_digit 6 = .ok (.iload_n 1, 1) := by decide +kernel
theorem dq_Mod_digit_7 : decode kb_Mod_digit 7 = .ok (.i2l, 1) := by decide +kernel
theorem dq_Mod_digit_8 : decode kb_Mod_digit 8 = .ok (.lconst 0, 1) := by decide +kernel
theorem dq_Mod_digit_9 : decode kb_Mod_digit 9 = .ok (.ldc2_w 73, 3) := by decide +kernel
theorem dq_Mod_digit_12 : decode kb_Mod_digit 12 = .ok (.invokestatic 75, 3) := by decide +kernel
theorem dq_Mod_digit_15 : decode kb_Mod_digit 15 = .ok (.ifCond .ne 7, 3) := by decide +kernel
theorem dq_Mod_digit_18 : decode kb_Mod_digit 18 = .ok (.iconst 1, 1) := by decide +kernel
theorem dq_Mod_digit_19 : decode kb_Mod_digit 19 = .ok (.goto 4, 3) := by decide +kernel
theorem dq_Mod_digit_22 : decode kb_Mod_digit 22 = .ok (.iconst 0, 1) := by decide +kernel
theorem dq_Mod_digit_23 : decode kb_Mod_digit 23 = .ok (.iconst 1, 1) := by decide +kernel
theorem dq_Mod_digit_24 : decode kb_Mod_digit 24 = .ok (.invokevirtual 32, 3) := by decide +kernel
theorem dq_Mod_digit_27 : decode kb_Mod_digit 27 = .ok (.ifCond .eq 5, 3) := by decide +kernel
theorem dq_Mod_digit_30 : decode kb_Mod_digit 30 = .ok (.iconst 0, 1) := by decide +kernel
theorem dq_Mod_digit_31 : decode kb_Mod_digit 31 = .ok (.ireturn, 1) := by decide +kernel
theorem dq_Mod_digit_32 : decode kb_Mod_digit 32 = .ok (.aload_n 0, 1) := by decide +kernel
theorem dq_Mod_digit_33 : decode kb_Mod_digit 33 = .ok (.getfield 61, 3) := by decide +kernel
theorem dq_Mod_digit_36 : decode kb_Mod_digit 36 = .ok (.ifCond .ne 75, 3) := by decide +kernel
theorem dq_Mod_digit_39 : decode kb_Mod_digit 39 = .ok (.aload_n 0, 1) := by decide +kernel
theorem dq_Mod_digit_40 : decode kb_Mod_digit 40 = .ok (.iload_n 1, 1) := by decide +kernel
theorem dq_Mod_digit_41 : decode kb_Mod_digit 41 = .ok (.ifCond .ne 17, 3) := by decide +kernel
theorem dq_Mod_digit_44 : decode kb_Mod_digit 44 = .ok (.aload_n 0, 1) := by decide +kernel
theorem dq_Mod_digit_45 : decode kb_Mod_digit 45 = .ok (.getfield 70, 3) := by decide +kernel
theorem dq_Mod_digit_48 : decode kb_Mod_digit 48 = .ok (.sipush (-1000), 3) := by decide +kernel
theorem dq_Mod_digit_51 : decode kb_Mod_digit 51 = .ok (.if_icmp .ge 7, 3) := by decide +kernel
theorem dq_Mod_digit_54 : decode kb_Mod_digit 54 = .ok (.iconst 1, 1) := by decide +kernel
theorem dq_Mod_digit_55 : decode kb_Mod_digit 55 = .ok (.goto 4, 3) := by decide +kernel
theorem dq_Mod_digit_58 : decode kb_Mod_digit 58 = .ok (.iconst 0, 1) := by decide +kernel
theorem dq_Mod_digit_59 : decode kb_Mod_digit 59 = .ok (.iconst 2, 1) := by decide +kernel
theorem dq_Mod_digit_60 : decode kb_Mod_digit 60 = .ok (.invokevirtual 32, 3) := by decide +kernel
theorem dq_Mod_digit_63 : decode kb_Mod_digit 63 = .ok (.ifCond .eq 5, 3) := by decide +kernel
theorem dq_Mod_digit_66 : decode kb_Mod_digit 66 = .ok (.iconst 0, 1) := by decide +kernel
theorem dq_Mod_digit_67 : decode kb_Mod_digit 67 = .ok (.ireturn, 1) := by decide +kernel
theorem dq_Mod_digit_68 : decode kb_Mod_digit 68 = .ok (.iload_n 1, 1) := by decide +kernel
theorem dq_Mod_digit_69 : decode kb_Mod_digit 69 = .ok (.ifCond .ne 15, 3) := by decide +kernel
theorem dq_Mod_digit_72 : decode kb_Mod_digit 72 = .ok (.aload_n 0, 1) := by decide +kernel
theorem dq_Mod_digit_73 : decode kb_Mod_digit 73 = .ok (.dup, 1) := by decide +kernel
theorem dq_Mod_digit_74 : decode kb_Mod_digit 74 = .ok (.getfield 70, 3) := by decide +kernel
theorem dq_Mod_digit_77 : decode kb_Mod_digit 77 = .ok (.iconst 1, 1) := by decide +kernel
theorem dq_Mod_digit_78 : decode kb_Mod_digit 78 = .ok (.isub, 1) := by decide +kernel
theorem dq_Mod_digit_79 : decode kb_Mod_digit 79 = .ok (.putfield 70, 3) := by decide +kernel
theorem dq_Mod_digit_82 : decode kb_Mod_digit 82 = .ok (.iconst 0, 1) := by decide +kernel
theorem dq_Mod_digit_83 : decode kb_Mod_digit 83 = .ok (.ireturn, 1) := by decide +kernel
theorem dq_Mod_digit_84 : decode kb_Mod_digit 84 = .ok (.aload_n 0, 1) := by decide +kernel
theorem dq_Mod_digit_85 : decode kb_Mod_digit 85 = .ok (.getfield 9, 3) := by decide +kernel
theorem dq_Mod_digit_88 : decode kb_Mod_digit 88 = .ok (.iconst 0, 1) := by decide +kernel
theorem dq_Mod_digit_89 : decode kb_Mod_digit 89 = .ok (.iload_n 1, 1) := by decide +kernel
theorem dq_Mod_digit_90 : decode kb_Mod_digit 90 = .ok (.iastore, 1) := by decide +kernel
theorem dq_Mod_digit_91 : decode kb_Mod_digit 91 = .ok (.aload_n 0, 1) := by decide +kernel
theorem dq_Mod_digit_92 : decode kb_Mod_digit 92 = .ok (.iconst 1, 1) := by decide +kernel
theorem dq_Mod_digit_93 : decode kb_Mod_digit 93 = .ok (.putfield 61, 3) := by decide +kernel
theorem dq_Mod_digit_96 : decode kb_Mod_digit 96 = .ok (.aload_n 0, 1) := by decide +kernel
theorem dq_Mod_digit_97 : decode kb_Mod_digit 97 = .ok (.aload_n 0, 1) := by decide +kernel
theorem dq_Mod_digit_98 : decode kb_Mod_digit 98 = .ok (.getfield 70, 3) := by decide +kernel
theorem dq_Mod_digit_101 : decode kb_Mod_digit 101 = .ok (.putfield 64, 3) := by decide +kernel
theorem dq_Mod_digit_104 : decode kb_Mod_digit 104 = .ok (.aload_n 0, 1) := by decide +kernel
theorem dq_Mod_digit_105 : decode kb_Mod_digit 105 = .ok (.iconst 0, 1) := by decide +kernel
theorem dq_Mod_digit_106 : decode kb_Mod_digit 106 = .ok (.putfield 67, 3) := by decide +kernel
theorem dq_Mod_digit_109 : decode kb_Mod_digit 109 = .ok (.iconst 1, 1) := by decide +kernel
theorem dq_Mod_digit_110 : decode kb_Mod_digit 110 = .ok (.ireturn, 1) := by decide +kernel
theorem dq_Mod_digit_111 : decode kb_Mod_digit 111 = .ok (.aload_n 0, 1) := by decide +kernel
theorem dq_Mod_digit_112 : decode kb_Mod_digit 112 = .ok (.aload_n 0, 1) := by decide +kernel
theorem dq_Mod_digit_113 : decode kb_Mod_digit 113 = .ok (.getfield 61, 3) := by decide +kernel
theorem dq_Mod_digit_116 : decode kb_Mod_digit 116 = .ok (.aload_n 0, 1) := by decide +kernel
theorem dq_Mod_digit_117 : decode kb_Mod_digit 117 = .ok (.getfield 67, 3) := by decide +kernel
theorem dq_Mod_digit_120 : decode kb_Mod_digit 120 = .ok (.iadd, 1) := by decide +kernel
theorem dq_Mod_digit_121 : decode kb_Mod_digit 121 = .ok (.sipush 800, 3) := by decide +kernel
theorem dq_Mod_digit_124 : decode kb_Mod_digit 124 = .ok (.if_icmp .lt 7, 3) := by decide +kernel
theorem dq_Mod_digit_127 : decode kb_Mod_digit 127 = .ok (.iconst 1, 1) := by decide +kernel
theorem dq_Mod_digit_128 : decode kb_Mod_digit 128 = .ok (.goto 4, 3) := by decide +kernel
theorem dq_Mod_digit_131 : decode kb_Mod_digit 131 = .ok (.iconst 0, 1) := by decide +kernel
theorem dq_Mod_digit_132 : decode kb_Mod_digit 132 = .ok (.iconst 2, 1) := by decide +kernel
theorem dq_Mod_digit_133 : decode kb_Mod_digit 133 = .ok (.invokevirtual 32, 3) := by decide +kernel
theorem dq_Mod_digit_136 : decode kb_Mod_digit 136 = .ok (.ifCond .eq 5, 3) := by decide +kernel
theorem dq_Mod_digit_139 : decode kb_Mod_digit 139 = .ok (.iconst 0, 1) := by decide +kernel
theorem dq_Mod_digit_140 : decode kb_Mod_digit 140 = .ok (.ireturn, 1) := by decide +kernel
theorem dq_Mod_digit_141 : decode kb_Mod_digit 141 = .ok (.iload_n 1, 1) := by decide +kernel
theorem dq_Mod_digit_142 : decode kb_Mod_digit 142 = .ok (.ifCond .ne 18, 3) := by decide +kernel
theorem dq_Mod_digit_145 : decode kb_Mod_digit 145 = .ok (.aload_n 0, 1) := by decide +kernel
theorem dq_Mod_digit_146 : decode kb_Mod_digit 146 = .ok (.dup, 1) := by decide +kernel
theorem dq_Mod_digit_147 : decode kb_Mod_digit 147 = .ok (.getfield 67, 3) := by decide +kernel
theorem dq_Mod_digit_150 : decode kb_Mod_digit 150 = .ok (.iconst 1, 1) := by decide +kernel
theorem dq_Mod_digit_151 : decode kb_Mod_digit 151 = .ok (.iadd, 1) := by decide +kernel
theorem dq_Mod_digit_152 : decode kb_Mod_digit 152 = .ok (.putfield 67, 3) := by decide +kernel
theorem dq_Mod_digit_155 : decode kb_Mod_digit 155 = .ok (.aload_n 0, 1) := by decide +kernel
theorem dq_Mod_digit_156 : decode kb_Mod_digit 156 = .ok (.getfield 61, 3) := by decide +kernel
theorem dq_Mod_digit_159 : decode kb_Mod_digit 159 = .ok (.ireturn, 1) := by decide +kernel
theorem dq_Mod_digit_160 : decode kb_Mod_digit 160 = .ok (.aload_n 0, 1) := by decide +kernel
theorem dq_Mod_digit_161 : decode kb_Mod_digit 161 = .ok (.getfield 67, 3) := by decide +kernel
theorem dq_Mod_digit_164 : decode kb_Mod_digit 164 = .ok (.ifCond .le 33, 3) := by decide +kernel
theorem dq_Mod_digit_167 : decode kb_Mod_digit 167 = .ok (.aload_n 0, 1) := by decide +kernel
theorem dq_Mod_digit_168 : decode kb_Mod_digit 168 = .ok (.getfield 9, 3) := by decide +kernel
theorem dq_Mod_digit_171 : decode kb_Mod_digit 171 = .ok (.aload_n 0, 1) := by decide +kernel
theorem dq_Mod_digit_172 : decode kb_Mod_digit 172 = .ok (.dup, 1) := by decide +kernel
theorem dq_Mod_digit_173 : decode kb_Mod_digit 173 = .ok (.getfield 61, 3) := by decide +kernel
theorem dq_Mod_digit_176 : decode kb_Mod_digit 176 = .ok (.dup_x1, 1) := by decide +kernel
theorem dq_Mod_digit_177 : decode kb_Mod_digit 177 = .ok (.iconst 1, 1) := by decide +kernel
theorem dq_Mod_digit_178 : decode kb_Mod_digit 178 = .ok (.iadd, 1) := by decide +kernel
theorem dq_Mod_digit_179 : decode kb_Mod_digit 179 = .ok (.putfield 61, 3) := by decide +kernel
theorem dq_Mod_digit_182 : decode kb_Mod_digit 182 = .ok (.iconst 0, 1) := by decide +kernel
theorem dq_Mod_digit_183 : decode kb_Mod_digit 183 = .ok (.iastore, 1) := by decide +kernel
theorem dq_Mod_digit_184 : decode kb_Mod_digit 184 = .ok (.aload_n 0, 1) := by decide +kernel
theorem dq_Mod_digit_185 : decode kb_Mod_digit 185 = .ok (.dup, 1) := by decide +kernel
theorem dq_Mod_digit_186 : decode kb_Mod_digit 186 = .ok (.getfield 67, 3) := by decide +kernel
theorem dq_Mod_digit_189 : decode kb_Mod_digit 189 = .ok (.iconst 1, 1) := by decide +kernel
theorem dq_Mod_digit_190 : decode kb_Mod_digit 190 = .ok (.isub, 1) := by decide +kernel
theorem dq_Mod_digit_191 : decode kb_Mod_digit 191 = .ok (.putfield 67, 3) := by decide +kernel
theorem dq_Mod_digit_194 : decode kb_Mod_digit 194 = .ok (.goto (-34), 3) := by decide +kernel
theorem dq_Mod_digit_197 : decode kb_Mod_digit 197 = .ok (.aload_n 0, 1) := by decide +kernel
theorem dq_Mod_digit_198 : decode kb_Mod_digit 198 = .ok (.getfield 9, 3) := by decide +kernel
theorem dq_Mod_digit_201 : decode kb_Mod_digit 201 = .ok (.aload_n 0, 1) := by decide +kernel
theorem dq_Mod_digit_202 : decode kb_Mod_digit 202 = .ok (.dup, 1) := by decide +kernel
theorem dq_Mod_digit_203 : decode kb_Mod_digit 203 = .ok (.getfield 61, 3) := by decide +kernel
theorem dq_Mod_digit_206 : decode kb_Mod_digit 206 = .ok (.dup_x1, 1) := by decide +kernel
theorem dq_Mod_digit_207 : decode kb_Mod_digit 207 = .ok (.iconst 1, 1) := by decide +kernel
theorem dq_Mod_digit_208 : decode kb_Mod_digit 208 = .ok (.iadd, 1) := by decide +kernel
theorem dq_Mod_digit_209 : decode kb_Mod_digit 209 = .ok (.putfield 61, 3) := by decide +kernel
theorem dq_Mod_digit_212 : decode kb_Mod_digit 212 = .ok (.iload_n 1, 1) := by decide +kernel
theorem dq_Mod_digit_213 : decode kb_Mod_digit 213 = .ok (.iastore, 1) := by decide +kernel
theorem dq_Mod_digit_214 : decode kb_Mod_digit 214 = .ok (.aload_n 0, 1) := by decide +kernel
theorem dq_Mod_digit_215 : decode kb_Mod_digit 215 = .ok (.getfield 61, 3) := by decide +kernel
theorem dq_Mod_digit_218 : decode kb_Mod_digit 218 = .ok (.ireturn, 1) := by decide +kernel
theorem dq_Mod_clear_0 : decode kb_Mod_clear 0 = .ok (.aload_n 0, 1) := by decide +kernel
theorem dq_Mod_clear_1 : decode kb_Mod_clear 1 = .ok (.iconst 0, 1) := by decide +kernel
theorem dq_Mod_clear_2 : decode kb_Mod_clear 2 = .ok (.putfield 28, 3) := by decide +kernel
theorem dq_Mod_clear_5 : decode kb_Mod_clear 5 = .ok (.aload_n 0, 1) := by decide +kernel
theorem dq_Mod_clear_6 : decode kb_Mod_clear 6 = .ok (.iload_n 2, 1) := by decide +kernel
theorem dq_Mod_clear_7 : decode kb_Mod_clear 7 = .ok (.i2l, 1) := by decide +kernel
theorem dq_Mod_clear_8 : decode kb_Mod_clear 8 = .ok (.ldc2_w 79, 3) := by decide +kernel
theorem dq_Mod_clear_11 : decode kb_Mod_clear 11 = .ok (.ldc2_w 81, 3) := by decide +kernel
theorem dq_Mod_clear_14 : decode kb_Mod_clear 14 = .ok (.invokestatic 75, 3) := by decide +kernel
theorem dq_Mod_clear_17 : decode kb_Mod_clear 17 = .ok (.ifCond .ne 7, 3) := by decide +kernel
theorem dq_Mod_clear_20 : decode kb_Mod_clear 20 = .ok (.iconst 1, 1) := by decide +kernel
theorem dq_Mod_clear_21 : decode kb_Mod_clear 21 = .ok (.goto 4, 3) := by decide +kernel
theorem dq_Mod_clear_24 : decode kb_Mod_clear 24 = .ok (.iconst 0, 1) := by decide +kernel
theorem dq_Mod_clear_25 : decode kb_Mod_clear 25 = .ok (.iconst 1, 1) := by decide +kernel
theorem dq_Mod_clear_26 : decode kb_Mod_clear 26 = .ok (.invokevirtual 32, 3) := by decide +kernel
theorem dq_Mod_clear_29 : decode kb_Mod_clear 29 = .ok (.ifCond .eq 4, 3) := by decide +kernel
theorem dq_Mod_clear_32 : decode kb_Mod_clear 32 = .ok (.return_, 1) := by decide +kernel
theorem dq_Mod_clear_33 : decode kb_Mod_clear 33 = .ok (.aload_n 0, 1) := by decide +kernel
theorem dq_Mod_clear_34 : decode kb_Mod_clear 34 = .ok (.iload_n 1, 1) := by decide +kernel
theorem dq_Mod_clear_35 : decode kb_Mod_clear 35 = .ok (.putfield 54, 3) := by decide +kernel
theorem dq_Mod_clear_38 : decode kb_Mod_clear 38 = .ok (.aload_n 0, 1) := by decide +kernel
theorem dq_Mod_clear_39 : decode kb_Mod_clear 39 = .ok (.iconst 0, 1) := by decide +kernel
theorem dq_Mod_clear_40 : decode kb_Mod_clear 40 = .ok (.putfield 61, 3) := by decide +kernel
theorem dq_Mod_clear_43 : decode kb_Mod_clear 43 = .ok (.aload_n 0, 1) := by decide +kernel
theorem dq_Mod_clear_44 : decode kb_Mod_clear 44 = .ok (.iconst 0, 1) := by decide +kernel
theorem dq_Mod_clear_45 : decode kb_Mod_clear 45 = .ok (.putfield 64, 3) := by decide +kernel
theorem dq_Mod_clear_48 : decode kb_Mod_clear 48 = .ok (.aload_n 0, 1) := by decide +kernel
theorem dq_Mod_clear_49 : decode kb_Mod_clear 49 = .ok (.iconst 0, 1) := by decide +kernel
theorem dq_Mod_clear_50 : decode kb_Mod_clear 50 = .ok (.putfield 67, 3) := by decide +kernel
theorem dq_Mod_clear_53 : decode kb_Mod_clear 53 = .ok (.aload_n 0, 1) := by decide +kernel
theorem dq_Mod_clear_54 : decode kb_Mod_clear 54 = .ok (.iload_n 2, 1) := by decide +kernel
theorem dq_Mod_clear_55 : decode kb_Mod_clear 55 = .ok (.putfield 70, 3) := by decide +kernel
theorem dq_Mod_clear_58 : decode kb_Mod_clear 58 = .ok (.return_, 1) := by decide +kernel
theorem dq_Mod_cut_0 : decode kb_Mod_cut 0 = .ok (.aload_n 0, 1) := by decide +kernel
theorem dq_Mod_cut_1 : decode kb_Mod_cut 1 = .ok (.iconst 0, 1) := by decide +kernel
theorem dq_Mod_cut_2 : decode kb_Mod_cut 2 = .ok (.putfield 67, 3) := by decide +kernel
theorem dq_Mod_cut_5 : decode kb_Mod_cut 5 = .ok (.aload_n 0, 1) := by decide +kernel
theorem dq_Mod_cut_6 : decode kb_Mod_cut 6 = .ok (.iconst 0, 1) := by decide +kernel
theorem dq_Mod_cut_7 : decode kb_Mod_cut 7 = .ok (.putfield 70, 3) := by decide +kernel
theorem dq_Mod_cut_10 : decode kb_Mod_cut 10 = .ok (.lload_n 1, 1) := by decide +kernel
theorem dq_Mod_cut_11 : decode kb_Mod_cut 11 = .ok (.aload_n 0, 1) := by decide +kernel
theorem dq_Mod_cut_12 : decode kb_Mod_cut 12 = .ok (.getfield 61, 3) := by decide +kernel
theorem dq_Mod_cut_15 : decode kb_Mod_cut 15 = .ok (.i2l, 1) := by decide +kernel
theorem dq_Mod_cut_16 : decode kb_Mod_cut 16 = .ok (.lcmp, 1) := by decide +kernel
theorem dq_Mod_cut_17 : decode kb_Mod_cut 17 = .ok (.ifCond .lt 4, 3) := by decide +kernel
theorem dq_Mod_cut_20 : decode kb_Mod_cut 20 = .ok (.return_, 1) := by decide +kernel
theorem dq_Mod_cut_21 : decode kb_Mod_cut 21 = .ok (.lload_n 1, 1) := by decide +kernel
theorem dq_Mod_cut_22 : decode kb_Mod_cut 22 = .ok (.lconst 0, 1) := by decide +kernel
theorem dq_Mod_cut_23 : decode kb_Mod_cut 23 = .ok (.lcmp, 1) := by decide +kernel
theorem dq_Mod_cut_24 : decode kb_Mod_cut 24 = .ok (.ifCond .ge 8, 3) := by decide +kernel
theorem dq_Mod_cut_27 : decode kb_Mod_cut 27 = .ok (.aload_n 0, 1) := by decide +kernel
theorem dq_Mod_cut_28 : decode kb_Mod_cut 28 = .ok (.invokevirtual 83, 3) := by decide +kernel
theorem dq_Mod_cut_31 : decode kb_Mod_cut 31 = .ok (.return_, 1) := by decide +kernel
theorem dq_Mod_cut_32 : decode kb_Mod_cut 32 = .ok (.lload_n 1, 1) := by decide +kernel
theorem dq_Mod_cut_33 : decode kb_Mod_cut 33 = .ok (.l2i, 1) := by decide +kernel
theorem dq_Mod_cut_34 : decode kb_Mod_cut 34 = .ok (.istore_n 3, 1) := by decide +kernel
theorem dq_Mod_cut_35 : decode kb_Mod_cut 35 = .ok (.aload_n 0, 1) := by decide +kernel
theorem dq_Mod_cut_36 : decode kb_Mod_cut 36 = .ok (.getfield 9, 3) := by decide +kernel
theorem dq_Mod_cut_39 : decode kb_Mod_cut 39 = .ok (.iload_n 3, 1) := by decide +kernel
theorem dq_Mod_cut_40 : decode kb_Mod_cut 40 = .ok (.iaload, 1) := by decide +kernel
theorem dq_Mod_cut_41 : decode kb_Mod_cut 41 = .ok (.iconst 5, 1) := by decide +kernel
theorem dq_Mod_cut_42 : decode kb_Mod_cut 42 = .ok (.if_icmp .gt 40, 3) := by decide +kernel
theorem dq_Mod_cut_45 : decode kb_Mod_cut 45 = .ok (.aload_n 0, 1) := by decide +kernel
theorem dq_Mod_cut_46 : decode kb_Mod_cut 46 = .ok (.getfield 9, 3) := by decide +kernel
theorem dq_Mod_cut_49 : decode kb_Mod_cut 49 = .ok (.iload_n 3, 1) := by decide +kernel
theorem dq_Mod_cut_50 : decode kb_Mod_cut 50 = .ok (.iaload, 1) := by decide +kernel
theorem dq_Mod_cut_51 : decode kb_Mod_cut 51 = .ok (.iconst 5, 1) := by decide +kernel
theorem dq_Mod_cut_52 : decode kb_Mod_cut 52 = .ok (.if_icmp .ne 34, 3) := by decide +kernel
theorem dq_Mod_cut_55 : decode kb_Mod_cut 55 = .ok (.aload_n 0, 1) := by decide +kernel
theorem dq_Mod_cut_56 : decode kb_Mod_cut 56 = .ok (.getfield 61, 3) := by decide +kernel
theorem dq_Mod_cut_59 : decode kb_Mod_cut 59 = .ok (.iload_n 3, 1) := by decide +kernel
theorem dq_Mod_cut_60 : decode kb_Mod_cut 60 = .ok (.iconst 1, 1) := by decide +kernel
theorem dq_Mod_cut_61 : decode kb_Mod_cut 61 = .ok (.iadd, 1) := by decide +kernel
theorem dq_Mod_cut_62 : decode kb_Mod_cut 62 = .ok (.if_icmp .gt 20, 3) := by decide +kernel
theorem dq_Mod_cut_65 : decode kb_Mod_cut 65 = .ok (.iload_n 3, 1) := by decide +kernel
theorem dq_Mod_cut_66 : decode kb_Mod_cut 66 = .ok (.ifCond .le 20, 3) := by decide +kernel
theorem dq_Mod_cut_69 : decode kb_Mod_cut 69 = .ok (.aload_n 0, 1) := by decide +kernel
theorem dq_Mod_cut_70 : decode kb_Mod_cut 70 = .ok (.getfield 9, 3) := by decide +kernel
theorem dq_Mod_cut_73 : decode kb_Mod_cut 73 = .ok (.iload_n 3, 1) := by decide +kernel
theorem dq_Mod_cut_74 : decode kb_Mod_cut 74 = .ok (.iconst 1, 1) := by decide +kernel
theorem dq_Mod_cut_75 : decode kb_Mod_cut 75 = .ok (.isub, 1) := by decide +kernel
theorem dq_Mod_cut_76 : decode kb_Mod_cut 76 = .ok (.iaload, 1) := by decide +kernel
theorem dq_Mod_cut_77 : decode kb_Mod_cut 77 = .ok (.iconst 2, 1) := by decide +kernel
end
section
theorem dq_Mod_cut_78 : decode kb_Mod_cut 78 = .ok (.irem, 1) := by decide +kernel
theorem dq_Mod_cut_79 : decode kb_Mod_cut 79 = .ok (.ifCond .eq 7, 3) := by decide +kernel
theorem dq_Mod_cut_82 : decode kb_Mod_cut 82 = .ok (.iconst 1, 1) := by decide +kernel
theorem dq_Mod_cut_83 : decode kb_Mod_cut 83 = .ok (.goto 4, 3) := by decide +kernel
theorem dq_Mod_cut_86 : decode kb_Mod_cut 86 = .ok (.iconst 0, 1) := by decide +kernel
theorem dq_Mod_cut_87 : decode kb_Mod_cut 87 = .ok (.istore 4, 2) := by decide +kernel
theorem dq_Mod_cut_89 : decode kb_Mod_cut 89 = .ok (.aload_n 0, 1) := by decide +kernel
theorem dq_Mod_cut_90 : decode kb_Mod_cut 90 = .ok (.iload_n 3, 1) := by decide +kernel
theorem dq_Mod_cut_91 : decode kb_Mod_cut 91 = .ok (.putfield 61, 3) := by decide +kernel
theorem dq_Mod_cut_94 : decode kb_Mod_cut 94 = .ok (.iload 4, 2) := by decide +kernel
theorem dq_Mod_cut_96 : decode kb_Mod_cut 96 = .ok (.ifCond .eq 86, 3) := by decide +kernel
theorem dq_Mod_cut_99 : decode kb_Mod_cut 99 = .ok (.aload_n 0, 1) := by decide +kernel
theorem dq_Mod_cut_100 : decode kb_Mod_cut 100 = .ok (.getfield 61, 3) := by decide +kernel
theorem dq_Mod_cut_103 : decode kb_Mod_cut 103 = .ok (.ifCond .le 32, 3) := by decide +kernel
theorem dq_Mod_cut_106 : decode kb_Mod_cut 106 = .ok (.aload_n 0, 1) := by decide +kernel
theorem dq_Mod_cut_107 : decode kb_Mod_cut 107 = .ok (.getfield 9, 3) := by decide +kernel
theorem dq_Mod_cut_110 : decode kb_Mod_cut 110 = .ok (.aload_n 0, 1) := by decide +kernel
theorem dq_Mod_cut_111 : decode kb_Mod_cut 111 = .ok (.getfield 61, 3) := by decide +kernel
theorem dq_Mod_cut_114 : decode kb_Mod_cut 114 = .ok (.iconst 1, 1) := by decide +kernel
theorem dq_Mod_cut_115 : decode kb_Mod_cut 115 = .ok (.isub, 1) := by decide +kernel
theorem dq_Mod_cut_116 : decode kb_Mod_cut 116 = .ok (.iaload, 1) := by decide +kernel
theorem dq_Mod_cut_117 : decode kb_Mod_cut 117 = .ok (.bipush 9, 2) := by decide +kernel
theorem dq_Mod_cut_119 : decode kb_Mod_cut 119 = .ok (.if_icmp .ne 16, 3) := by decide +kernel
theorem dq_Mod_cut_122 : decode kb_Mod_cut 122 = .ok (.aload_n 0, 1) := by decide +kernel
theorem dq_Mod_cut_123 : decode kb_Mod_cut 123 = .ok (.dup, 1) := by decide +kernel
theorem dq_Mod_cut_124 : decode kb_Mod_cut 124 = .ok (.getfield 61, 3) := by decide +kernel
theorem dq_Mod_cut_127 : decode kb_Mod_cut 127 = .ok (.iconst 1, 1) := by decide +kernel
theorem dq_Mod_cut_128 : decode kb_Mod_cut 128 = .ok (.isub, 1) := by decide +kernel
theorem dq_Mod_cut_129 : decode kb_Mod_cut 129 = .ok (.putfield 61, 3) := by decide +kernel
theorem dq_Mod_cut_132 : decode kb_Mod_cut 132 = .ok (.goto (-33), 3) := by decide +kernel
theorem dq_Mod_cut_135 : decode kb_Mod_cut 135 = .ok (.aload_n 0, 1) := by decide +kernel
theorem dq_Mod_cut_136 : decode kb_Mod_cut 136 = .ok (.getfield 61, 3) := by decide +kernel
theorem dq_Mod_cut_139 : decode kb_Mod_cut 139 = .ok (.ifCond .ne 28, 3) := by decide +kernel
theorem dq_Mod_cut_142 : decode kb_Mod_cut 142 = .ok (.aload_n 0, 1) := by decide +kernel
theorem dq_Mod_cut_143 : decode kb_Mod_cut 143 = .ok (.getfield 9, 3) := by decide +kernel
theorem dq_Mod_cut_146 : decode kb_Mod_cut 146 = .ok (.iconst 0, 1) := by decide +kernel
theorem dq_Mod_cut_147 : decode kb_Mod_cut 147 = .ok (.iconst 1, 1) := by decide +kernel
theorem dq_Mod_cut_148 : decode kb_Mod_cut 148 = .ok (.iastore, 1) := by decide +kernel
theorem dq_Mod_cut_149 : decode kb_Mod_cut 149 = .ok (.aload_n 0, 1) := by decide +kernel
theorem dq_Mod_cut_150 : decode kb_Mod_cut 150 = .ok (.iconst 1, 1) := by decide +kernel
theorem dq_Mod_cut_151 : decode kb_Mod_cut 151 = .ok (.putfield 61, 3) := by decide +kernel
theorem dq_Mod_cut_154 : decode kb_Mod_cut 154 = .ok (.aload_n 0, 1) := by decide +kernel
theorem dq_Mod_cut_155 : decode kb_Mod_cut 155 = .ok (.dup, 1) := by decide +kernel
theorem dq_Mod_cut_156 : decode kb_Mod_cut 156 = .ok (.getfield 64, 3) := by decide +kernel
theorem dq_Mod_cut_159 : decode kb_Mod_cut 159 = .ok (.iconst 1, 1) := by decide +kernel
theorem dq_Mod_cut_160 : decode kb_Mod_cut 160 = .ok (.iadd, 1) := by decide +kernel
theorem dq_Mod_cut_161 : decode kb_Mod_cut 161 = .ok (.putfield 64, 3) := by decide +kernel
theorem dq_Mod_cut_164 : decode kb_Mod_cut 164 = .ok (.goto 18, 3) := by decide +kernel
theorem dq_Mod_cut_167 : decode kb_Mod_cut 167 = .ok (.aload_n 0, 1) := by decide +kernel
theorem dq_Mod_cut_168 : decode kb_Mod_cut 168 = .ok (.getfield 9, 3) := by decide +kernel
theorem dq_Mod_cut_171 : decode kb_Mod_cut 171 = .ok (.aload_n 0, 1) := by decide +kernel
theorem dq_Mod_cut_172 : decode kb_Mod_cut 172 = .ok (.getfield 61, 3) := by decide +kernel
theorem dq_Mod_cut_175 : decode kb_Mod_cut 175 = .ok (.iconst 1, 1) := by decide +kernel
theorem dq_Mod_cut_176 : decode kb_Mod_cut 176 = .ok (.isub, 1) := by decide +kernel
theorem dq_Mod_cut_177 : decode kb_Mod_cut 177 = .ok (.dup2, 1) := by decide +kernel
theorem dq_Mod_cut_178 : decode kb_Mod_cut 178 = .ok (.iaload, 1) := by decide +kernel
theorem dq_Mod_cut_179 : decode kb_Mod_cut 179 = .ok (.iconst 1, 1) := by decide +kernel
theorem dq_Mod_cut_180 : decode kb_Mod_cut 180 = .ok (.iadd, 1) := by decide +kernel
theorem dq_Mod_cut_181 : decode kb_Mod_cut 181 = .ok (.iastore, 1) := by decide +kernel
theorem dq_Mod_cut_182 : decode kb_Mod_cut 182 = .ok (.aload_n 0, 1) := by decide +kernel
theorem dq_Mod_cut_183 : decode kb_Mod_cut 183 = .ok (.getfield 61, 3) := by decide +kernel
theorem dq_Mod_cut_186 : decode kb_Mod_cut 186 = .ok (.ifCond .le 30, 3) := by decide +kernel
theorem dq_Mod_cut_189 : decode kb_Mod_cut 189 = .ok (.aload_n 0, 1) := by decide +kernel
theorem dq_Mod_cut_190 : decode kb_Mod_cut 190 = .ok (.getfield 9, 3) := by decide +kernel
theorem dq_Mod_cut_193 : decode kb_Mod_cut 193 = .ok (.aload_n 0, 1) := by decide +kernel
theorem dq_Mod_cut_194 : decode kb_Mod_cut 194 = .ok (.getfield 61, 3) := by decide +kernel
theorem dq_Mod_cut_197 : decode kb_Mod_cut 197 = .ok (.iconst 1, 1) := by decide +kernel
theorem dq_Mod_cut_198 : decode kb_Mod_cut 198 = .ok (.isub, 1) := by decide +kernel
theorem dq_Mod_cut_199 : decode kb_Mod_cut 199 = .ok (.iaload, 1) := by decide +kernel
theorem dq_Mod_cut_200 : decode kb_Mod_cut 200 = .ok (.ifCond .ne 16, 3) := by decide +kernel
theorem dq_Mod_cut_203 : decode kb_Mod_cut 203 = .ok (.aload_n 0, 1) := by decide +kernel
theorem dq_Mod_cut_204 : decode kb_Mod_cut 204 = .ok (.dup, 1) := by decide +kernel
theorem dq_Mod_cut_205 : decode kb_Mod_cut 205 = .ok (.getfield 61, 3) := by decide +kernel
theorem dq_Mod_cut_208 : decode kb_Mod_cut 208 = .ok (.iconst 1, 1) := by decide +kernel
theorem dq_Mod_cut_209 : decode kb_Mod_cut 209 = .ok (.isub, 1) := by decide +kernel
theorem dq_Mod_cut_210 : decode kb_Mod_cut 210 = .ok (.putfield 61, 3) := by decide +kernel
theorem dq_Mod_cut_213 : decode kb_Mod_cut 213 = .ok (.goto (-31), 3) := by decide +kernel
theorem dq_Mod_cut_216 : decode kb_Mod_cut 216 = .ok (.aload_n 0, 1) := by decide +kernel
theorem dq_Mod_cut_217 : decode kb_Mod_cut 217 = .ok (.getfield 61, 3) := by decide +kernel
theorem dq_Mod_cut_220 : decode kb_Mod_cut 220 = .ok (.ifCond .ne 7, 3) := by decide +kernel
theorem dq_Mod_cut_223 : decode kb_Mod_cut 223 = .ok (.aload_n 0, 1) := by decide +kernel
theorem dq_Mod_cut_224 : decode kb_Mod_cut 224 = .ok (.invokevirtual 83, 3) := by decide +kernel
theorem dq_Mod_cut_227 : decode kb_Mod_cut 227 = .ok (.return_, 1) := by decide +kernel
theorem dq_Mod_nothing_0 : decode kb_Mod_nothing 0 = .ok (.aload_n 0, 1) := by decide +kernel
theorem dq_Mod_nothing_1 : decode kb_Mod_nothing 1 = .ok (.iconst 0, 1) := by decide +kernel
theorem dq_Mod_nothing_2 : decode kb_Mod_nothing 2 = .ok (.putfield 61, 3) := by decide +kernel
theorem dq_Mod_nothing_5 : decode kb_Mod_nothing 5 = .ok (.aload_n 0, 1) := by decide +kernel
theorem dq_Mod_nothing_6 : decode kb_Mod_nothing 6 = .ok (.iconst 0, 1) := by decide +kernel
theorem dq_Mod_nothing_7 : decode kb_Mod_nothing 7 = .ok (.putfield 64, 3) := by decide +kernel
theorem dq_Mod_nothing_10 : decode kb_Mod_nothing 10 = .ok (.return_, 1) := by decide +kernel
theorem dq_Mod_round_0 : decode kb_Mod_round 0 = .ok (.aload_n 0, 1) := by decide +kernel
theorem dq_Mod_round_1 : decode kb_Mod_round 1 = .ok (.iconst 0, 1) := by decide +kernel
theorem dq_Mod_round_2 : decode kb_Mod_round 2 = .ok (.putfield 28, 3) := by decide +kernel
theorem dq_Mod_round_5 : decode kb_Mod_round 5 = .ok (.aload_n 0, 1) := by decide +kernel
theorem dq_Mod_round_6 : decode kb_Mod_round 6 = .ok (.iload_n 1, 1) := by decide +kernel
theorem dq_Mod_round_7 : decode kb_Mod_round 7 = .ok (.i2l, 1) := by decide +kernel
theorem dq_Mod_round_8 : decode kb_Mod_round 8 = .ok (.lconst 0, 1) := by decide +kernel
theorem dq_Mod_round_9 : decode kb_Mod_round 9 = .ok (.ldc2_w 86, 3) := by decide +kernel
theorem dq_Mod_round_12 : decode kb_Mod_round 12 = .ok (.invokestatic 75, 3) := by decide +kernel
theorem dq_Mod_round_15 : decode kb_Mod_round 15 = .ok (.ifCond .ne 7, 3) := by decide +kernel
theorem dq_Mod_round_18 : decode kb_Mod_round 18 = .ok (.iconst 1, 1) := by decide +kernel
theorem dq_Mod_round_19 : decode kb_Mod_round 19 = .ok (.goto 4, 3) := by decide +kernel
theorem dq_Mod_round_22 : decode kb_Mod_round 22 = .ok (.iconst 0, 1) := by decide +kernel
theorem dq_Mod_round_23 : decode kb_Mod_round 23 = .ok (.iconst 1, 1) := by decide +kernel
theorem dq_Mod_round_24 : decode kb_Mod_round 24 = .ok (.invokevirtual 32, 3) := by decide +kernel
theorem dq_Mod_round_27 : decode kb_Mod_round 27 = .ok (.ifCond .eq 5, 3) := by decide +kernel
theorem dq_Mod_round_30 : decode kb_Mod_round 30 = .ok (.iconst 0, 1) := by decide +kernel
theorem dq_Mod_round_31 : decode kb_Mod_round 31 = .ok (.ireturn, 1) := by decide +kernel
theorem dq_Mod_round_32 : decode kb_Mod_round 32 = .ok (.aload_n 0, 1) := by decide +kernel
theorem dq_Mod_round_33 : decode kb_Mod_round 33 = .ok (.iload_n 1, 1) := by decide +kernel
theorem dq_Mod_round_34 : decode kb_Mod_round 34 = .ok (.ifCond .le 8, 3) := by decide +kernel
theorem dq_Mod_round_37 : decode kb_Mod_round 37 = .ok (.iload_n 1, 1) := by decide +kernel
theorem dq_Mod_round_38 : decode kb_Mod_round 38 = .ok (.i2l, 1) := by decide +kernel
theorem dq_Mod_round_39 : decode kb_Mod_round 39 = .ok (.goto 6, 3) := by decide +kernel
theorem dq_Mod_round_42 : decode kb_Mod_round 42 = .ok (.ldc2_w 88, 3) := by decide +kernel
theorem dq_Mod_round_45 : decode kb_Mod_round 45 = .ok (.invokevirtual 90, 3) := by decide +kernel
theorem dq_Mod_round_48 : decode kb_Mod_round 48 = .ok (.aload_n 0, 1) := by decide +kernel
theorem dq_Mod_round_49 : decode kb_Mod_round 49 = .ok (.getfield 61, 3) := by decide +kernel
theorem dq_Mod_round_52 : decode kb_Mod_round 52 = .ok (.ireturn, 1) := by decide +kernel
theorem dq_Mod_places_0 : decode kb_Mod_places 0 = .ok (.aload_n 0, 1) := by decide +kernel
theorem dq_Mod_places_1 : decode kb_Mod_places 1 = .ok (.iconst 0, 1) := by decide +kernel
theorem dq_Mod_places_2 : decode kb_Mod_places 2 = .ok (.putfield 28, 3) := by decide +kernel
theorem dq_Mod_places_5 : decode kb_Mod_places 5 = .ok (.aload_n 0, 1) := by decide +kernel
theorem dq_Mod_places_6 : decode kb_Mod_places 6 = .ok (.iload_n 1, 1) := by decide +kernel
theorem dq_Mod_places_7 : decode kb_Mod_places 7 = .ok (.i2l, 1) := by decide +kernel
theorem dq_Mod_places_8 : decode kb_Mod_places 8 = .ok (.ldc2_w 79, 3) := by decide +kernel
theorem dq_Mod_places_11 : decode kb_Mod_places 11 = .ok (.ldc2_w 94, 3) := by decide +kernel
theorem dq_Mod_places_14 : decode kb_Mod_places 14 = .ok (.invokestatic 75, 3) := by decide +kernel
theorem dq_Mod_places_17 : decode kb_Mod_places 17 = .ok (.ifCond .ne 7, 3) := by decide +kernel
theorem dq_Mod_places_20 : decode kb_Mod_places 20 = .ok (.iconst 1, 1) := by decide +kernel
theorem dq_Mod_places_21 : decode kb_Mod_places 21 = .ok (.goto 4, 3) := by decide +kernel
theorem dq_Mod_places_24 : decode kb_Mod_places 24 = .ok (.iconst 0, 1) := by decide +kernel
theorem dq_Mod_places_25 : decode kb_Mod_places 25 = .ok (.iconst 1, 1) := by decide +kernel
theorem dq_Mod_places_26 : decode kb_Mod_places 26 = .ok (.invokevirtual 32, 3) := by decide +kernel
theorem dq_Mod_places_29 : decode kb_Mod_places 29 = .ok (.ifCond .eq 5, 3) := by decide +kernel
theorem dq_Mod_places_32 : decode kb_Mod_places 32 = .ok (.iconst 0, 1) := by decide +kernel
theorem dq_Mod_places_33 : decode kb_Mod_places 33 = .ok (.ireturn, 1) := by decide +kernel
theorem dq_Mod_places_34 : decode kb_Mod_places 34 = .ok (.aload_n 0, 1) := by decide +kernel
theorem dq_Mod_places_35 : decode kb_Mod_places 35 = .ok (.aload_n 0, 1) := by decide +kernel
theorem dq_Mod_places_36 : decode kb_Mod_places 36 = .ok (.getfield 64, 3) := by decide +kernel
theorem dq_Mod_places_39 : decode kb_Mod_places 39 = .ok (.i2l, 1) := by decide +kernel
theorem dq_Mod_places_40 : decode kb_Mod_places 40 = .ok (.iload_n 1, 1) := by decide +kernel
theorem dq_Mod_places_41 : decode kb_Mod_places 41 = .ok (.i2l, 1) := by decide +kernel
theorem dq_Mod_places_42 : decode kb_Mod_places 42 = .ok (.ladd, 1) := by decide +kernel
theorem dq_Mod_places_43 : decode kb_Mod_places 43 = .ok (.invokevirtual 90, 3) := by decide +kernel
theorem dq_Mod_places_46 : decode kb_Mod_places 46 = .ok (.aload_n 0, 1) := by decide +kernel
theorem dq_Mod_places_47 : decode kb_Mod_places 47 = .ok (.getfield 61, 3) := by decide +kernel
theorem dq_Mod_places_50 : decode kb_Mod_places 50 = .ok (.ireturn, 1) := by decide +kernel
theorem dq_Mod_finds_0 : decode kb_Mod_finds 0 = .ok (.aload_n 0, 1) := by decide +kernel
theorem dq_Mod_finds_1 : decode kb_Mod_finds 1 = .ok (.lconst 0, 1) := by decide +kernel
theorem dq_Mod_finds_2 : decode kb_Mod_finds 2 = .ok (.putfield 96, 3) := by decide +kernel
theorem dq_Mod_finds_5 : decode kb_Mod_finds 5 = .ok (.iload_n 1, 1) := by decide +kernel
theorem dq_Mod_finds_6 : decode kb_Mod_finds 6 = .ok (.ifCond .eq 13, 3) := by decide +kernel
theorem dq_Mod_finds_9 : decode kb_Mod_finds 9 = .ok (.aload_n 0, 1) := by decide +kernel
theorem dq_Mod_finds_10 : decode kb_Mod_finds 10 = .ok (.getfield 64, 3) := by decide +kernel
theorem dq_Mod_finds_13 : decode kb_Mod_finds 13 = .ok (.sipush (-330), 3) := by decide +kernel
theorem dq_Mod_finds_16 : decode kb_Mod_finds 16 = .ok (.if_icmp .ge 5, 3) := by decide +kernel
theorem dq_Mod_finds_19 : decode kb_Mod_finds 19 = .ok (.iconst 1, 1) := by decide +kernel
theorem dq_Mod_finds_20 : decode kb_Mod_finds 20 = .ok (.ireturn, 1) := by decide +kernel
theorem dq_Mod_finds_21 : decode kb_Mod_finds 21 = .ok (.aload_n 0, 1) := by decide +kernel
theorem dq_Mod_finds_22 : decode kb_Mod_finds 22 = .ok (.getfield 64, 3) := by decide +kernel
theorem dq_Mod_finds_25 : decode kb_Mod_finds 25 = .ok (.sipush 310, 3) := by decide +kernel
theorem dq_Mod_finds_28 : decode kb_Mod_finds 28 = .ok (.if_icmp .le 5, 3) := by decide +kernel
theorem dq_Mod_finds_31 : decode kb_Mod_finds 31 = .ok (.iconst 0, 1) := by decide +kernel
theorem dq_Mod_finds_32 : decode kb_Mod_finds 32 = .ok (.ireturn, 1) := by decide +kernel
theorem dq_Mod_finds_33 : decode kb_Mod_finds 33 = .ok (.aload_n 0, 1) := by decide +kernel
theorem dq_Mod_finds_34 : decode kb_Mod_finds 34 = .ok (.getfield 64, 3) := by decide +kernel
theorem dq_Mod_finds_37 : decode kb_Mod_finds 37 = .ok (.ifCond .le 10, 3) := by decide +kernel
theorem dq_Mod_finds_40 : decode kb_Mod_finds 40 = .ok (.aload_n 0, 1) := by decide +kernel
theorem dq_Mod_finds_41 : decode kb_Mod_finds 41 = .ok (.getfield 64, 3) := by decide +kernel
theorem dq_Mod_finds_44 : decode kb_Mod_finds 44 = .ok (.goto 4, 3) := by decide +kernel
theorem dq_Mod_finds_47 : decode kb_Mod_finds 47 = .ok (.iconst 0, 1) := by decide +kernel
theorem dq_Mod_finds_48 : decode kb_Mod_finds 48 = .ok (.istore_n 2, 1) := by decide +kernel
theorem dq_Mod_finds_49 : decode kb_Mod_finds 49 = .ok (.lconst 0, 1) := by decide +kernel
theorem dq_Mod_finds_50 : decode kb_Mod_finds 50 = .ok (.lstore_n 3, 1) := by decide +kernel
theorem dq_Mod_finds_51 : decode kb_Mod_finds 51 = .ok (.iconst 0, 1) := by decide +kernel
theorem dq_Mod_finds_52 : decode kb_Mod_finds 52 = .ok (.istore 5, 2) := by decide +kernel
theorem dq_Mod_finds_54 : decode kb_Mod_finds 54 = .ok (.iconst 0, 1) := by decide +kernel
theorem dq_Mod_finds_55 : decode kb_Mod_finds 55 = .ok (.istore 6, 2) := by decide +kernel
theorem dq_Mod_finds_57 : decode kb_Mod_finds 57 = .ok (.iconst 0, 1) := by decide +kernel
theorem dq_Mod_finds_58 : decode kb_Mod_finds 58 = .ok (.istore 7, 2) := by decide +kernel
theorem dq_Mod_finds_60 : decode kb_Mod_finds 60 = .ok (.aload_n 0, 1) := by decide +kernel
theorem dq_Mod_finds_61 : decode kb_Mod_finds 61 = .ok (.iconst 0, 1) := by decide +kernel
theorem dq_Mod_finds_62 : decode kb_Mod_finds 62 = .ok (.putfield 40, 3) := by decide +kernel
theorem dq_Mod_finds_65 : decode kb_Mod_finds 65 = .ok (.iconst 0, 1) := by decide +kernel
theorem dq_Mod_finds_66 : decode kb_Mod_finds 66 = .ok (.istore 8, 2) := by decide +kernel
theorem dq_Mod_finds_68 : decode kb_Mod_finds 68 = .ok (.iload 8, 2) := by decide +kernel
theorem dq_Mod_finds_70 : decode kb_Mod_finds 70 = .ok (.iload_n 2, 1) := by decide +kernel
theorem dq_Mod_finds_71 : decode kb_Mod_finds 71 = .ok (.if_icmp .ge 42, 3) := by decide +kernel
theorem dq_Mod_finds_74 : decode kb_Mod_finds 74 = .ok (.aload_n 0, 1) := by decide +kernel
theorem dq_Mod_finds_75 : decode kb_Mod_finds 75 = .ok (.getfield 13, 3) := by decide +kernel
theorem dq_Mod_finds_78 : decode kb_Mod_finds 78 = .ok (.aload_n 0, 1) := by decide +kernel
theorem dq_Mod_finds_79 : decode kb_Mod_finds 79 = .ok (.dup, 1) := by decide +kernel
theorem dq_Mod_finds_80 : decode kb_Mod_finds 80 = .ok (.getfield 40, 3) := by decide +kernel
theorem dq_Mod_finds_83 : decode kb_Mod_finds 83 = .ok (.dup_x1, 1) := by decide +kernel
theorem dq_Mod_finds_84 : decode kb_Mod_finds 84 = .ok (.iconst 1, 1) := by decide +kernel
theorem dq_Mod_finds_85 : decode kb_Mod_finds 85 = .ok (.iadd, 1) := by decide +kernel
theorem dq_Mod_finds_86 : decode kb_Mod_finds 86 = .ok (.putfield 40, 3) := by decide +kernel
theorem dq_Mod_finds_89 : decode kb_Mod_finds 89 = .ok (.iload 8, 2) := by decide +kernel
theorem dq_Mod_finds_91 : decode kb_Mod_finds 91 = .ok (.iload_n 1, 1) := by decide +kernel
theorem dq_Mod_finds_92 : decode kb_Mod_finds 92 = .ok (.if_icmp .ge 13, 3) := by decide +kernel
theorem dq_Mod_finds_95 : decode kb_Mod_finds 95 = .ok (.aload_n 0, 1) := by decide +kernel
theorem dq_Mod_finds_96 : decode kb_Mod_finds 96 = .ok (.getfield 9, 3) := by decide +kernel
theorem dq_Mod_finds_99 : decode kb_Mod_finds 99 = .ok (.iload 8, 2) := by decide +kernel
theorem dq_Mod_finds_101 : decode kb_Mod_finds 101 = .ok (.iaload, 1) := by decide +kernel
theorem dq_Mod_finds_102 : decode kb_Mod_finds 102 = .ok (.goto 4, 3) := by decide +kernel
theorem dq_Mod_finds_105 : decode kb_Mod_finds 105 = .ok (.iconst 0, 1) := by decide +kernel
theorem dq_Mod_finds_106 : decode kb_Mod_finds 106 = .ok (.iastore, 1) := by decide +kernel
theorem dq_Mod_finds_107 : decode kb_Mod_finds 107 = .ok (.iinc 8 1, 3) := by decide +kernel
theorem dq_Mod_finds_110 : decode kb_Mod_finds 110 = .ok (.goto (-42), 3) := by decide +kernel
theorem dq_Mod_finds_113 : decode kb_Mod_finds 113 = .ok (.iconst 0, 1) := by decide +kernel
theorem dq_Mod_finds_114 : decode kb_Mod_finds 114 = .ok (.istore 8, 2) := by decide +kernel
theorem dq_Mod_finds_116 : decode kb_Mod_finds 116 = .ok (.aload_n 0, 1) := by decide +kernel
theorem dq_Mod_finds_117 : decode kb_Mod_finds 117 = .ok (.iconst 0, 1) := by decide +kernel
theorem dq_Mod_finds_118 : decode kb_Mod_finds 118 = .ok (.aload_n 0, 1) := by decide +kernel
theorem dq_Mod_finds_119 : decode kb_Mod_finds 119 = .ok (.getfield 40, 3) := by decide +kernel
theorem dq_Mod_finds_122 : decode kb_Mod_finds 122 = .ok (.invokevirtual 100, 3) := by decide +kernel
theorem dq_Mod_finds_125 : decode kb_Mod_finds 125 = .ok (.ifCond .ne 82, 3) := by decide +kernel
theorem dq_Mod_finds_128 : decode kb_Mod_finds 128 = .ok (.aload_n 0, 1) := by decide +kernel
theorem dq_Mod_finds_129 : decode kb_Mod_finds 129 = .ok (.getfield 16, 3) := by decide +kernel
theorem dq_Mod_finds_132 : decode kb_Mod_finds 132 = .ok (.iload 8, 2) := by decide +kernel
theorem dq_Mod_finds_134 : decode kb_Mod_finds 134 = .ok (.iinc 8 1, 3) := by decide +kernel
theorem dq_Mod_finds_137 : decode kb_Mod_finds 137 = .ok (.aload_n 0, 1) := by decide +kernel
theorem dq_Mod_finds_138 : decode kb_Mod_finds 138 = .ok (.getfield 13, 3) := by decide +kernel
theorem dq_Mod_finds_141 : decode kb_Mod_finds 141 = .ok (.aload_n 0, 1) := by decide +kernel
theorem dq_Mod_finds_142 : decode kb_Mod_finds 142 = .ok (.getfield 40, 3) := by decide +kernel
theorem dq_Mod_finds_145 : decode kb_Mod_finds 145 = .ok (.iconst 1, 1) := by decide +kernel
theorem dq_Mod_finds_146 : decode kb_Mod_finds 146 = .ok (.isub, 1) := by decide +kernel
theorem dq_Mod_finds_147 : decode kb_Mod_finds 147 = .ok (.iaload, 1) := by decide +kernel
theorem dq_Mod_finds_148 : decode kb_Mod_finds 148 = .ok (.iconst 1, 1) := by decide +kernel
theorem dq_Mod_finds_149 : decode kb_Mod_finds 149 = .ok (.iand, 1) := by decide +kernel
theorem dq_Mod_finds_150 : decode kb_Mod_finds 150 = .ok (.iastore, 1) := by decide +kernel
theorem dq_Mod_finds_151 : decode kb_Mod_finds 151 = .ok (.iconst 0, 1) := by decide +kernel
theorem dq_Mod_finds_152 : decode kb_Mod_finds 152 = .ok (.istore 9, 2) := by decide +kernel
theorem dq_Mod_finds_154 : decode kb_Mod_finds 154 = .ok (.iconst 0, 1) := by decide +kernel
theorem dq_Mod_finds_155 : decode kb_Mod_finds 155 = .ok (.istore 10, 2) := by decide +kernel
theorem dq_Mod_finds_157 : decode kb_Mod_finds 157 = .ok (.iload 10, 2) := by decide +kernel
theorem dq_Mod_finds_159 : decode kb_Mod_finds 159 = .ok (.aload_n 0, 1) := by decide +kernel
theorem dq_Mod_finds_160 : decode kb_Mod_finds 160 = .ok (.getfield 40, 3) := by decide +kernel
theorem dq_Mod_finds_163 : decode kb_Mod_finds 163 = .ok (.if_icmp .ge 41, 3) := by decide +kernel
theorem dq_Mod_finds_166 : decode kb_Mod_finds 166 = .ok (.bipush 10, 2) := by decide +kernel
theorem dq_Mod_finds_168 : decode kb_Mod_finds 168 = .ok (.iload 9, 2) := by decide +kernel
theorem dq_Mod_finds_170 : decode kb_Mod_finds 170 = .ok (.imul, 1) := by decide +kernel
theorem dq_Mod_finds_171 : decode kb_Mod_finds 171 = .ok (.aload_n 0, 1) := by decide +kernel
theorem dq_Mod_finds_172 : decode kb_Mod_finds 172 = .ok (.getfield 13, 3) := by decide +kernel
theorem dq_Mod_finds_175 : decode kb_Mod_finds 175 = .ok (.iload 10, 2) := by decide +kernel
theorem dq_Mod_finds_177 : decode kb_Mod_finds 177 = .ok (.iaload, 1) := by decide +kernel
theorem dq_Mod_finds_178 : decode kb_Mod_finds 178 = .ok (.iadd, 1) := by decide +kernel
theorem dq_Mod_finds_179 : decode kb_Mod_finds 179 = .ok (.istore 11, 2) := by decide +kernel
theorem dq_Mod_finds_181 : decode kb_Mod_finds 181 = .ok (.aload_n 0, 1) := by decide +kernel
theorem dq_Mod_finds_182 : decode kb_Mod_finds 182 = .ok (.getfield 13, 3) := by decide +kernel
theorem dq_Mod_finds_185 : decode kb_Mod_finds 185 = .ok (.iload 10, 2) := by decide +kernel
theorem dq_Mod_finds_187 : decode kb_Mod_finds 187 = .ok (.iload 11, 2) := by decide +kernel
theorem dq_Mod_finds_189 : decode kb_Mod_finds 189 = .ok (.iconst 2, 1) := by decide +kernel
theorem dq_Mod_finds_190 : decode kb_Mod_finds 190 = .ok (.idiv, 1) := by decide +kernel
theorem dq_Mod_finds_191 : decode kb_Mod_finds 191 = .ok (.iastore, 1) := by decide +kernel
theorem dq_Mod_finds_192 : decode kb_Mod_finds 192 = .ok (.iload 11, 2) := by decide +kernel
theorem dq_Mod_finds_194 : decode kb_Mod_finds 194 = .ok (.iconst 2, 1) := by decide +kernel
theorem dq_Mod_finds_195 : decode kb_Mod_finds 195 = .ok (.irem, 1) := by decide +kernel
theorem dq_Mod_finds_196 : decode kb_Mod_finds 196 = .ok (.istore 9, 2) := by decide +kernel
theorem dq_Mod_finds_198 : decode kb_Mod_finds 198 = .ok (.iinc 10 1, 3) := by decide +kernel
theorem dq_Mod_finds_201 : decode kb_Mod_finds 201 = .ok (.goto (-44), 3) := by decide +kernel
theorem dq_Mod_finds_204 : decode kb_Mod_finds 204 = .ok (.goto (-88), 3) := by decide +kernel
theorem dq_Mod_finds_207 : decode kb_Mod_finds 207 = .ok (.iload 8, 2) := by decide +kernel
theorem dq_Mod_finds_209 : decode kb_Mod_finds 209 = .ok (.sipush 1024, 3) := by decide +kernel
theorem dq_Mod_finds_212 : decode kb_Mod_finds 212 = .ok (.if_icmp .le 5, 3) := by decide +kernel
theorem dq_Mod_finds_215 : decode kb_Mod_finds 215 = .ok (.iconst 0, 1) := by decide +kernel
theorem dq_Mod_finds_216 : decode kb_Mod_finds 216 = .ok (.ireturn, 1) := by decide +kernel
theorem dq_Mod_finds_217 : decode kb_Mod_finds 217 = .ok (.iload 8, 2) := by decide +kernel
theorem dq_Mod_finds_219 : decode kb_Mod_finds 219 = .ok (.iconst 1, 1) := by decide +kernel
theorem dq_Mod_finds_220 : decode kb_Mod_finds 220 = .ok (.isub, 1) := by decide +kernel
theorem dq_Mod_finds_221 : decode kb_Mod_finds 221 = .ok (.istore 9, 2) := by decide +kernel
theorem dq_Mod_finds_223 : decode kb_Mod_finds 223 = .ok (.iload 9, 2) := by decide +kernel
theorem dq_Mod_finds_225 : decode kb_Mod_finds 225 = .ok (.ifCond .lt 59, 3) := by decide +kernel
theorem dq_Mod_finds_228 : decode kb_Mod_finds 228 = .ok (.iload 5, 2) := by decide +kernel
theorem dq_Mod_finds_230 : decode kb_Mod_finds 230 = .ok (.bipush 54, 2) := by decide +kernel
theorem dq_Mod_finds_232 : decode kb_Mod_finds 232 = .ok (.if_icmp .ge 26, 3) := by decide +kernel
theorem dq_Mod_finds_235 : decode kb_Mod_finds 235 = .ok (.lload_n 3, 1) := by decide +kernel
theorem dq_Mod_finds_236 : decode kb_Mod_finds 236 = .ok (.iconst 1, 1) := by decide +kernel
theorem dq_Mod_finds_237 : decode kb_Mod_finds 237 = .ok (.lshl, 1) := by decide +kernel
theorem dq_Mod_finds_238 : decode kb_Mod_finds 238 = .ok (.aload_n 0, 1) := by decide +kernel
theorem dq_Mod_finds_239 : decode kb_Mod_finds 239 = .ok (.getfield 16, 3) := by decide +kernel
theorem dq_Mod_finds_242 : decode kb_Mod_finds 242 = .ok (.iload 9, 2) := by decide +kernel
theorem dq_Mod_finds_244 : decode kb_Mod_finds 244 = .ok (.iaload, 1) := by decide +kernel
theorem dq_Mod_finds_245 : decode kb_Mod_finds 245 = .ok (.i2l, 1) := by decide +kernel
theorem dq_Mod_finds_246 : decode kb_Mod_finds 246 = .ok (.lor, 1) := by decide +kernel
theorem dq_Mod_finds_247 : decode kb_Mod_finds 247 = .ok (.lstore_n 3, 1) := by decide +kernel
theorem dq_Mod_finds_248 : decode kb_Mod_finds 248 = .ok (.iinc 5 1, 3) := by decide +kernel
theorem dq_Mod_finds_251 : decode kb_Mod_finds 251 = .ok (.iload 9, 2) := by decide +kernel
theorem dq_Mod_finds_253 : decode kb_Mod_finds 253 = .ok (.istore 6, 2) := by decide +kernel
theorem dq_Mod_finds_255 : decode kb_Mod_finds 255 = .ok (.goto 23, 3) := by decide +kernel
theorem dq_Mod_finds_258 : decode kb_Mod_finds 258 = .ok (.iload 7, 2) := by decide +kernel
theorem dq_Mod_finds_260 : decode kb_Mod_finds 260 = .ok (.aload_n 0, 1) := by decide +kernel
theorem dq_Mod_finds_261 : decode kb_Mod_finds 261 = .ok (.getfield 16, 3) := by decide +kernel
theorem dq_Mod_finds_264 : decode kb_Mod_finds 264 = .ok (.iload 9, 2) := by decide +kernel
theorem dq_Mod_finds_266 : decode kb_Mod_finds 266 = .ok (.iaload, 1) := by decide +kernel
theorem dq_Mod_finds_267 : decode kb_Mod_finds 267 = .ok (.ifCond .eq 7, 3) := by decide +kernel
theorem dq_Mod_finds_270 : decode kb_Mod_finds 270 = .ok (.iconst 1, 1) := by decide +kernel
theorem dq_Mod_finds_271 : decode kb_Mod_finds 271 = .ok (.goto 4, 3) := by decide +kernel
theorem dq_Mod_finds_274 : decode kb_Mod_finds 274 = .ok (.iconst 0, 1) := by decide +kernel
theorem dq_Mod_finds_275 : decode kb_Mod_finds 275 = .ok (.ior, 1) := by decide +kernel
theorem dq_Mod_finds_276 : decode kb_Mod_finds 276 = .ok (.istore 7, 2) := by decide +kernel
theorem dq_Mod_finds_278 : decode kb_Mod_finds 278 = .ok (.iinc 9 (-1), 3) := by decide +kernel
theorem dq_Mod_finds_281 : decode kb_Mod_finds 281 = .ok (.goto (-58), 3) := by decide +kernel
theorem dq_Mod_finds_284 : decode kb_Mod_finds 284 = .ok (.aload_n 0, 1) := by decide +kernel
theorem dq_Mod_finds_285 : decode kb_Mod_finds 285 = .ok (.iconst 0, 1) := by decide +kernel
theorem dq_Mod_finds_286 : decode kb_Mod_finds 286 = .ok (.putfield 40, 3) := by decide +kernel
theorem dq_Mod_finds_289 : decode kb_Mod_finds 289 = .ok (.aload_n 0, 1) := by decide +kernel
theorem dq_Mod_finds_290 : decode kb_Mod_finds 290 = .ok (.getfield 64, 3) := by decide +kernel
theorem dq_Mod_finds_293 : decode kb_Mod_finds 293 = .ok (.istore 9, 2) := by decide +kernel
theorem dq_Mod_finds_295 : decode kb_Mod_finds 295 = .ok (.iload 9, 2) := by decide +kernel
theorem dq_Mod_finds_297 : decode kb_Mod_finds 297 = .ok (.ifCond .ge 26, 3) := by decide +kernel
theorem dq_Mod_finds_300 : decode kb_Mod_finds 300 = .ok (.aload_n 0, 1) := by decide +kernel
theorem dq_Mod_finds_301 : decode kb_Mod_finds 301 = .ok (.getfield 13, 3) := by decide +kernel
theorem dq_Mod_finds_304 : decode kb_Mod_finds 304 = .ok (.aload_n 0, 1) := by decide +kernel
theorem dq_Mod_finds_305 : decode kb_Mod_finds 305 = .ok (.dup, 1) := by decide +kernel
theorem dq_Mod_finds_306 : decode kb_Mod_finds 306 = .ok (.getfield 40, 3) := by decide +kernel
theorem dq_Mod_finds_309 : decode kb_Mod_finds 309 = .ok (.dup_x1, 1) := by decide +kernel
theorem dq_Mod_finds_310 : decode kb_Mod_finds 310 = .ok (.iconst 1, 1) := by decide +kernel
theorem dq_Mod_finds_311 : decode kb_Mod_finds 311 = .ok (.iadd, 1) := by decide +kernel
theorem dq_Mod_finds_312 : decode kb_Mod_finds 312 = .ok (.putfield 40, 3) := by decide +kernel
theorem dq_Mod_finds_315 : decode kb_Mod_finds 315 = .ok (.iconst 0, 1) := by decide +kernel
theorem dq_Mod_finds_316 : decode kb_Mod_finds 316 = .ok (.iastore, 1) := by decide +kernel
theorem dq_Mod_finds_317 : decode kb_Mod_finds 317 = .ok (.iinc 9 1, 3) := by decide +kernel
theorem dq_Mod_finds_320 : decode kb_Mod_finds 320 = .ok (.goto (-25), 3) := by decide +kernel
theorem dq_Mod_finds_323 : decode kb_Mod_finds 323 = .ok (.iload_n 2, 1) := by decide +kernel
theorem dq_Mod_finds_324 : decode kb_Mod_finds 324 = .ok (.istore 9, 2) := by decide +kernel
theorem dq_Mod_finds_326 : decode kb_Mod_finds 326 = .ok (.iload 9, 2) := by decide +kernel
theorem dq_Mod_finds_328 : decode kb_Mod_finds 328 = .ok (.iload_n 1, 1) := by decide +kernel
theorem dq_Mod_finds_329 : decode kb_Mod_finds 329 = .ok (.if_icmp .ge 32, 3) := by decide +kernel
theorem dq_Mod_finds_332 : decode kb_Mod_finds 332 = .ok (.aload_n 0, 1) := by decide +kernel
theorem dq_Mod_finds_333 : decode kb_Mod_finds 333 = .ok (.getfield 13, 3) := by decide +kernel
theorem dq_Mod_finds_336 : decode kb_Mod_finds 336 = .ok (.aload_n 0, 1) := by decide +kernel
theorem dq_Mod_finds_337 : decode kb_Mod_finds 337 = .ok (.dup, 1) := by decide +kernel
theorem dq_Mod_finds_338 : decode kb_Mod_finds 338 = .ok (.getfield 40, 3) := by decide +kernel
theorem dq_Mod_finds_341 : decode kb_Mod_finds 341 = .ok (.dup_x1, 1) := by decide +kernel
theorem dq_Mod_finds_342 : decode kb_Mod_finds 342 = .ok (.iconst 1, 1) := by decide +kernel
theorem dq_Mod_finds_343 : decode kb_Mod_finds 343 = .ok (.iadd, 1) := by decide +kernel
theorem dq_Mod_finds_344 : decode kb_Mod_finds 344 = .ok (.putfield 40, 3) := by decide +kernel
theorem dq_Mod_finds_347 : decode kb_Mod_finds 347 = .ok (.aload_n 0, 1) := by decide +kernel
theorem dq_Mod_finds_348 : decode kb_Mod_finds 348 = .ok (.getfield 9, 3) := by decide +kernel
theorem dq_Mod_finds_351 : decode kb_Mod_finds 351 = .ok (.iload 9, 2) := by decide +kernel
theorem dq_Mod_finds_353 : decode kb_Mod_finds 353 = .ok (.iaload, 1) := by decide +kernel
theorem dq_Mod_finds_354 : decode kb_Mod_finds 354 = .ok (.iastore, 1) := by decide +kernel
theorem dq_Mod_finds_355 : decode kb_Mod_finds 355 = .ok (.iinc 9 1, 3) := by decide +kernel
theorem dq_Mod_finds_358 : decode kb_Mod_finds 358 = .ok (.goto (-32), 3) := by decide +kernel
theorem dq_Mod_finds_361 : decode kb_Mod_finds 361 = .ok (.iconst (-1), 1) := by decide +kernel
theorem dq_Mod_finds_362 : decode kb_Mod_finds 362 = .ok (.istore 9, 2) := by decide +kernel
theorem dq_Mod_finds_364 : decode kb_Mod_finds 364 = .ok (.iload 9, 2) := by decide +kernel
theorem dq_Mod_finds_366 : decode kb_Mod_finds 366 = .ok (.sipush (-1075), 3) := by decide +kernel
theorem dq_Mod_finds_369 : decode kb_Mod_finds 369 = .ok (.if_icmp .lt 99, 3) := by decide +kernel
theorem dq_Mod_finds_372 : decode kb_Mod_finds 372 = .ok (.iload 5, 2) := by decide +kernel
theorem dq_Mod_finds_374 : decode kb_Mod_finds 374 = .ok (.bipush 54, 2) := by decide +kernel
theorem dq_Mod_finds_376 : decode kb_Mod_finds 376 = .ok (.if_icmp .ge 92, 3) := by decide +kernel
theorem dq_Mod_finds_379 : decode kb_Mod_finds 379 = .ok (.iconst 0, 1) := by decide +kernel
theorem dq_Mod_finds_380 : decode kb_Mod_finds 380 = .ok (.istore 10, 2) := by decide +kernel
theorem dq_Mod_finds_382 : decode kb_Mod_finds 382 = .ok (.aload_n 0, 1) := by decide +kernel
theorem dq_Mod_finds_383 : decode kb_Mod_finds 383 = .ok (.getfield 40, 3) := by decide +kernel
theorem dq_Mod_finds_386 : decode kb_Mod_finds 386 = .ok (.iconst 1, 1) := by decide +kernel
theorem dq_Mod_finds_387 : decode kb_Mod_finds 387 = .ok (.isub, 1) := by decide +kernel
theorem dq_Mod_finds_388 : decode kb_Mod_finds 388 = .ok (.istore 11, 2) := by decide +kernel
theorem dq_Mod_finds_390 : decode kb_Mod_finds 390 = .ok (.iload 11, 2) := by decide +kernel
theorem dq_Mod_finds_392 : decode kb_Mod_finds 392 = .ok (.ifCond .lt 42, 3) := by decide +kernel
theorem dq_Mod_finds_395 : decode kb_Mod_finds 395 = .ok (.iconst 2, 1) := by decide +kernel
theorem dq_Mod_finds_396 : decode kb_Mod_finds 396 = .ok (.aload_n 0, 1) := by decide +kernel
theorem dq_Mod_finds_397 : decode kb_Mod_finds 397 = .ok (.getfield 13, 3) := by decide +kernel
theorem dq_Mod_finds_400 : decode kb_Mod_finds 400 = .ok (.iload 11, 2) := by decide +kernel
theorem dq_Mod_finds_402 : decode kb_Mod_finds 402 = .ok (.iaload, 1) := by decide +kernel
theorem dq_Mod_finds_403 : decode kb_Mod_finds 403 = .ok (.imul, 1) := by decide +kernel
theorem dq_Mod_finds_404 : decode kb_Mod_finds 404 = .ok (.iload 10, 2) := by decide +kernel
theorem dq_Mod_finds_406 : decode kb_Mod_finds 406 = .ok (.iadd, 1) := by decide +kernel
theorem dq_Mod_finds_407 : decode kb_Mod_finds 407 = .ok (.istore 12, 2) := by decide +kernel
theorem dq_Mod_finds_409 : decode kb_Mod_finds 409 = .ok (.aload_n 0, 1) := by decide +kernel
theorem dq_Mod_finds_410 : decode kb_Mod_finds 410 = .ok (.getfield 13, 3) := by decide +kernel
theorem dq_Mod_finds_413 : decode kb_Mod_finds 413 = .ok (.iload 11, 2) := by decide +kernel
theorem dq_Mod_finds_415 : decode kb_Mod_finds 415 = .ok (.iload 12, 2) := by decide +kernel
theorem dq_Mod_finds_417 : decode kb_Mod_finds 417 = .ok (.bipush 10, 2) := by decide +kernel
theorem dq_Mod_finds_419 : decode kb_Mod_finds 419 = .ok (.irem, 1) := by decide +kernel
theorem dq_Mod_finds_420 : decode kb_Mod_finds 420 = .ok (.iastore, 1) := by decide +kernel
theorem dq_Mod_finds_421 : decode kb_Mod_finds 421 = .ok (.iload 12, 2) := by decide +kernel
theorem dq_Mod_finds_423 : decode kb_Mod_finds 423 = .ok (.bipush 10, 2) := by decide +kernel
theorem dq_Mod_finds_425 : decode kb_Mod_finds 425 = .ok (.idiv, 1) := by decide +kernel
theorem dq_Mod_finds_426 : decode kb_Mod_finds 426 = .ok (.istore 10, 2) := by decide +kernel
theorem dq_Mod_finds_428 : decode kb_Mod_finds 428 = .ok (.iinc 11 (-1), 3) := by decide +kernel
theorem dq_Mod_finds_431 : decode kb_Mod_finds 431 = .ok (.goto (-41), 3) := by decide +kernel
theorem dq_Mod_finds_434 : decode kb_Mod_finds 434 = .ok (.iload 5, 2) := by decide +kernel
theorem dq_Mod_finds_436 : decode kb_Mod_finds 436 = .ok (.ifCond .ne 11, 3) := by decide +kernel
theorem dq_Mod_finds_439 : decode kb_Mod_finds 439 = .ok (.iload 10, 2) := by decide +kernel
theorem dq_Mod_finds_441 : decode kb_Mod_finds 441 = .ok (.ifCond .ne 6, 3) := by decide +kernel
theorem dq_Mod_finds_444 : decode kb_Mod_finds 444 = .ok (.goto 18, 3) := by decide +kernel
theorem dq_Mod_finds_447 : decode kb_Mod_finds 447 = .ok (.lload_n 3, 1) := by decide +kernel
theorem dq_Mod_finds_448 : decode kb_Mod_finds 448 = .ok (.iconst 1, 1) := by decide +kernel
theorem dq_Mod_finds_449 : decode kb_Mod_finds 449 = .ok (.lshl, 1) := by decide +kernel
theorem dq_Mod_finds_450 : decode kb_Mod_finds 450 = .ok (.iload 10, 2) := by decide +kernel
theorem dq_Mod_finds_452 : decode kb_Mod_finds 452 = .ok (.i2l, 1) := by decide +kernel
theorem dq_Mod_finds_453 : decode kb_Mod_finds 453 = .ok (.lor, 1) := by decide +kernel
theorem dq_Mod_finds_454 : decode kb_Mod_finds 454 = .ok (.lstore_n 3, 1) := by decide +kernel
theorem dq_Mod_finds_455 : decode kb_Mod_finds 455 = .ok (.iinc 5 1, 3) := by decide +kernel
theorem dq_Mod_finds_458 : decode kb_Mod_finds 458 = .ok (.iload 9, 2) := by decide +kernel
theorem dq_Mod_finds_460 : decode kb_Mod_finds 460 = .ok (.istore 6, 2) := by decide +kernel
theorem dq_Mod_finds_462 : decode kb_Mod_finds 462 = .ok (.iinc 9 (-1), 3) := by decide +kernel
theorem dq_Mod_finds_465 : decode kb_Mod_finds 465 = .ok (.goto (-101), 3) := by decide +kernel
theorem dq_Mod_finds_468 : decode kb_Mod_finds 468 = .ok (.iload 7, 2) := by decide +kernel
theorem dq_Mod_finds_470 : decode kb_Mod_finds 470 = .ok (.aload_n 0, 1) := by decide +kernel
theorem dq_Mod_finds_471 : decode kb_Mod_finds 471 = .ok (.iconst 0, 1) := by decide +kernel
theorem dq_Mod_finds_472 : decode kb_Mod_finds 472 = .ok (.aload_n 0, 1) := by decide +kernel
theorem dq_Mod_finds_473 : decode kb_Mod_finds 473 = .ok (.getfield 40, 3) := by decide +kernel
theorem dq_Mod_finds_476 : decode kb_Mod_finds 476 = .ok (.invokevirtual 100, 3) := by decide +kernel
theorem dq_Mod_finds_479 : decode kb_Mod_finds 479 = .ok (.ifCond .ne 7, 3) := by decide +kernel
theorem dq_Mod_finds_482 : decode kb_Mod_finds 482 = .ok (.iconst 1, 1) := by decide +kernel
theorem dq_Mod_finds_483 : decode kb_Mod_finds 483 = .ok (.goto 4, 3) := by decide +kernel
theorem dq_Mod_finds_486 : decode kb_Mod_finds 486 = .ok (.iconst 0, 1) := by decide +kernel
theorem dq_Mod_finds_487 : decode kb_Mod_finds 487 = .ok (.ior, 1) := by decide +kernel
theorem dq_Mod_finds_488 : decode kb_Mod_finds 488 = .ok (.istore 7, 2) := by decide +kernel
theorem dq_Mod_finds_490 : decode kb_Mod_finds 490 = .ok (.iload 5, 2) := by decide +kernel
theorem dq_Mod_finds_492 : decode kb_Mod_finds 492 = .ok (.ifCond .ne 5, 3) := by decide +kernel
theorem dq_Mod_finds_495 : decode kb_Mod_finds 495 = .ok (.iconst 1, 1) := by decide +kernel
theorem dq_Mod_finds_496 : decode kb_Mod_finds 496 = .ok (.ireturn, 1) := by decide +kernel
theorem dq_Mod_finds_497 : decode kb_Mod_finds 497 = .ok (.aload_n 0, 1) := by decide +kernel
theorem dq_Mod_finds_498 : decode kb_Mod_finds 498 = .ok (.lload_n 3, 1) := by decide +kernel
theorem dq_Mod_finds_499 : decode kb_Mod_finds 499 = .ok (.iload 5, 2) := by decide +kernel
theorem dq_Mod_finds_501 : decode kb_Mod_finds 501 = .ok (.iload 6, 2) := by decide +kernel
theorem dq_Mod_finds_503 : decode kb_Mod_finds 503 = .ok (.iload 7, 2) := by decide +kernel
theorem dq_Mod_finds_505 : decode kb_Mod_finds 505 = .ok (.invokevirtual 104, 3) := by decide +kernel
theorem dq_Mod_finds_508 : decode kb_Mod_finds 508 = .ok (.ireturn, 1) := by decide +kernel
theorem dq_Mod_isNothing_0 : decode kb_Mod_isNothing 0 = .ok (.iload_n 1, 1) := by decide +kernel
theorem dq_Mod_isNothing_1 : decode kb_Mod_isNothing 1 = .ok (.istore_n 3, 1) := by decide +kernel
theorem dq_Mod_isNothing_2 : decode kb_Mod_isNothing 2 = .ok (.iload_n 3, 1) := by decide +kernel
theorem dq_Mod_isNothing_3 : decode kb_Mod_isNothing 3 = .ok (.iload_n 2, 1) := by decide +kernel
theorem dq_Mod_isNothing_4 : decode kb_Mod_isNothing 4 = .ok (.if_icmp .ge 20, 3) := by decide +kernel
theorem dq_Mod_isNothing_7 : decode kb_Mod_isNothing 7 = .ok (.aload_n 0, 1) := by decide +kernel
theorem dq_Mod_isNothing_8 : decode kb_Mod_isNothing 8 = .ok (.getfield 13, 3) := by decide +kernel
theorem dq_Mod_isNothing_11 : decode kb_Mod_isNothing 11 = .ok (.iload_n 3, 1) := by decide +kernel
theorem dq_Mod_isNothing_12 : decode kb_Mod_isNothing 12 = .ok (.iaload, 1) := by decide +kernel
theorem dq_Mod_isNothing_13 : decode kb_Mod_isNothing 13 = .ok (.ifCond .eq 5, 3) := by decide +kernel
theorem dq_Mod_isNothing_16 : decode kb_Mod_isNothing 16 = .ok (.iconst 0, 1) := by decide +kernel
theorem dq_Mod_isNothing_17 : decode kb_Mod_isNothing 17 = .ok (.ireturn, 1) := by decide +kernel
theorem dq_Mod_isNothing_18 : decode kb_Mod_isNothing 18 = .ok (.iinc 3 1, 3) := by decide +kernel
theorem dq_Mod_isNothing_21 : decode kb_Mod_isNothing 21 = .ok (.goto (-19), 3) := by decide +kernel
theorem dq_Mod_isNothing_24 : decode kb_Mod_isNothing 24 = .ok (.iconst 1, 1) := by decide +kernel
theorem dq_Mod_isNothing_25 : decode kb_Mod_isNothing 25 = .ok (.ireturn, 1) := by decide +kernel
theorem dq_Mod_put_0 : decode kb_Mod_put 0 = .ok (.iload 4, 2) := by decide +kernel
theorem dq_Mod_put_2 : decode kb_Mod_put 2 = .ok (.iload_n 3, 1) := by decide +kernel
theorem dq_Mod_put_3 : decode kb_Mod_put 3 = .ok (.iadd, 1) := by decide +kernel
theorem dq_Mod_put_4 : decode kb_Mod_put 4 = .ok (.bipush 53, 2) := by decide +kernel
theorem dq_Mod_put_6 : decode kb_Mod_put 6 = .ok (.isub, 1) := by decide +kernel
theorem dq_Mod_put_7 : decode kb_Mod_put 7 = .ok (.sipush (-1074), 3) := by decide +kernel
theorem dq_Mod_put_10 : decode kb_Mod_put 10 = .ok (.if_icmp .ge 9, 3) := by decide +kernel
theorem dq_Mod_put_13 : decode kb_Mod_put 13 = .ok (.sipush (-1074), 3) := by decide +kernel
theorem dq_Mod_put_16 : decode kb_Mod_put 16 = .ok (.goto 10, 3) := by decide +kernel
theorem dq_Mod_put_19 : decode kb_Mod_put 19 = .ok (.iload 4, 2) := by decide +kernel
theorem dq_Mod_put_21 : decode kb_Mod_put 21 = .ok (.iload_n 3, 1) := by decide +kernel
theorem dq_Mod_put_22 : decode kb_Mod_put 22 = .ok (.iadd, 1) := by decide +kernel
theorem dq_Mod_put_23 : decode kb_Mod_put 23 = .ok (.bipush 53, 2) := by decide +kernel
theorem dq_Mod_put_25 : decode kb_Mod_put 25 = .ok (.isub, 1) := by decide +kernel
theorem dq_Mod_put_26 : decode kb_Mod_put 26 = .ok (.istore 6, 2) := by decide +kernel
theorem dq_Mod_put_28 : decode kb_Mod_put 28 = .ok (.lload_n 1, 1) := by decide +kernel
theorem dq_Mod_put_29 : decode kb_Mod_put 29 = .ok (.lstore 7, 2) := by decide +kernel
theorem dq_Mod_put_31 : decode kb_Mod_put 31 = .ok (.iload 5, 2) := by decide +kernel
theorem dq_Mod_put_33 : decode kb_Mod_put 33 = .ok (.istore 9, 2) := by decide +kernel
theorem dq_Mod_put_35 : decode kb_Mod_put 35 = .ok (.iconst 0, 1) := by decide +kernel
theorem dq_Mod_put_36 : decode kb_Mod_put 36 = .ok (.istore 10, 2) := by decide +kernel
theorem dq_Mod_put_38 : decode kb_Mod_put 38 = .ok (.iload 4, 2) := by decide +kernel
theorem dq_Mod_put_40 : decode kb_Mod_put 40 = .ok (.istore 11, 2) := by decide +kernel
theorem dq_Mod_put_42 : decode kb_Mod_put 42 = .ok (.iload 11, 2) := by decide +kernel
theorem dq_Mod_put_44 : decode kb_Mod_put 44 = .ok (.iload 6, 2) := by decide +kernel
theorem dq_Mod_put_46 : decode kb_Mod_put 46 = .ok (.if_icmp .ge 38, 3) := by decide +kernel
theorem dq_Mod_put_49 : decode kb_Mod_put 49 = .ok (.iload 9, 2) := by decide +kernel
theorem dq_Mod_put_51 : decode kb_Mod_put 51 = .ok (.iload 10, 2) := by decide +kernel
theorem dq_Mod_put_53 : decode kb_Mod_put 53 = .ok (.ior, 1) := by decide +kernel
theorem dq_Mod_put_54 : decode kb_Mod_put 54 = .ok (.istore 9, 2) := by decide +kernel
theorem dq_Mod_put_56 : decode kb_Mod_put 56 = .ok (.lload 7, 2) := by decide +kernel
theorem dq_Mod_put_58 : decode kb_Mod_put 58 = .ok (.lconst 1, 1) := by decide +kernel
theorem dq_Mod_put_59 : decode kb_Mod_put 59 = .ok (.land, 1) := by decide +kernel
theorem dq_Mod_put_60 : decode kb_Mod_put 60 = .ok (.lconst 0, 1) := by decide +kernel
theorem dq_Mod_put_61 : decode kb_Mod_put 61 = .ok (.lcmp, 1) := by decide +kernel
theorem dq_Mod_put_62 : decode kb_Mod_put 62 = .ok (.ifCond .eq 7, 3) := by decide +kernel
theorem dq_Mod_put_65 : decode kb_Mod_put 65 = .ok (.iconst 1, 1) := by decide +kernel
theorem dq_Mod_put_66 : decode kb_Mod_put 66 = .ok (.goto 4, 3) := by decide +kernel
theorem dq_Mod_put_69 : decode kb_Mod_put 69 = .ok (.iconst 0, 1) := by decide +kernel
theorem dq_Mod_put_70 : decode kb_Mod_put 70 = .ok (.istore 10, 2) := by decide +kernel
theorem dq_Mod_put_72 : decode kb_Mod_put 72 = .ok (.lload 7, 2) := by decide +kernel
theorem dq_Mod_put_74 : decode kb_Mod_put 74 = .ok (.iconst 1, 1) := by decide +kernel
theorem dq_Mod_put_75 : decode kb_Mod_put 75 = .ok (.lshr, 1) := by decide +kernel
theorem dq_Mod_put_76 : decode kb_Mod_put 76 = .ok (.lstore 7, 2) := by decide +kernel
theorem dq_Mod_put_78 : decode kb_Mod_put 78 = .ok (.iinc 11 1, 3) := by decide +kernel
theorem dq_Mod_put_81 : decode kb_Mod_put 81 = .ok (.goto (-39), 3) := by decide +kernel
theorem dq_Mod_put_84 : decode kb_Mod_put 84 = .ok (.iload 6, 2) := by decide +kernel
theorem dq_Mod_put_86 : decode kb_Mod_put 86 = .ok (.istore 11, 2) := by decide +kernel
theorem dq_Mod_put_88 : decode kb_Mod_put 88 = .ok (.iload 6, 2) := by decide +kernel
theorem dq_Mod_put_90 : decode kb_Mod_put 90 = .ok (.iload 4, 2) := by decide +kernel
theorem dq_Mod_put_92 : decode kb_Mod_put 92 = .ok (.if_icmp .ge 13, 3) := by decide +kernel
theorem dq_Mod_put_95 : decode kb_Mod_put 95 = .ok (.lload 7, 2) := by decide +kernel
theorem dq_Mod_put_97 : decode kb_Mod_put 97 = .ok (.iload 4, 2) := by decide +kernel
theorem dq_Mod_put_99 : decode kb_Mod_put 99 = .ok (.iload 6, 2) := by decide +kernel
theorem dq_Mod_put_101 : decode kb_Mod_put 101 = .ok (.isub, 1) := by decide +kernel
theorem dq_Mod_put_102 : decode kb_Mod_put 102 = .ok (.lshl, 1) := by decide +kernel
theorem dq_Mod_put_103 : decode kb_Mod_put 103 = .ok (.lstore 7, 2) := by decide +kernel
theorem dq_Mod_put_105 : decode kb_Mod_put 105 = .ok (.iload 10, 2) := by decide +kernel
theorem dq_Mod_put_107 : decode kb_Mod_put 107 = .ok (.ifCond .eq 23, 3) := by decide +kernel
theorem dq_Mod_put_110 : decode kb_Mod_put 110 = .ok (.iload 9, 2) := by decide +kernel
theorem dq_Mod_put_112 : decode kb_Mod_put 112 = .ok (.ifCond .ne 12, 3) := by decide +kernel
theorem dq_Mod_put_115 : decode kb_Mod_put 115 = .ok (.lload 7, 2) := by decide +kernel
theorem dq_Mod_put_117 : decode kb_Mod_put 117 = .ok (.lconst 1, 1) := by decide +kernel
theorem dq_Mod_put_118 : decode kb_Mod_put 118 = .ok (.land, 1) := by decide +kernel
theorem dq_Mod_put_119 : decode kb_Mod_put 119 = .ok (.lconst 0, 1) := by decide +kernel
theorem dq_Mod_put_120 : decode kb_Mod_put 120 = .ok (.lcmp, 1) := by decide +kernel
theorem dq_Mod_put_121 : decode kb_Mod_put 121 = .ok (.ifCond .eq 9, 3) := by decide +kernel
theorem dq_Mod_put_124 : decode kb_Mod_put 124 = .ok (.lload 7, 2) := by decide +kernel
theorem dq_Mod_put_126 : decode kb_Mod_put 126 = .ok (.lconst 1, 1) := by decide +kernel
theorem dq_Mod_put_127 : decode kb_Mod_put 127 = .ok (.ladd, 1) := by decide +kernel
theorem dq_Mod_put_128 : decode kb_Mod_put 128 = .ok (.lstore 7, 2) := by decide +kernel
theorem dq_Mod_put_130 : decode kb_Mod_put 130 = .ok (.lload 7, 2) := by decide +kernel
theorem dq_Mod_put_132 : decode kb_Mod_put 132 = .ok (.ldc2_w 108, 3) := by decide +kernel
theorem dq_Mod_put_135 : decode kb_Mod_put 135 = .ok (.lcmp, 1) := by decide +kernel
theorem dq_Mod_put_136 : decode kb_Mod_put 136 = .ok (.ifCond .ne 12, 3) := by decide +kernel
theorem dq_Mod_put_139 : decode kb_Mod_put 139 = .ok (.lload 7, 2) := by decide +kernel
theorem dq_Mod_put_141 : decode kb_Mod_put 141 = .ok (.iconst 1, 1) := by decide +kernel
theorem dq_Mod_put_142 : decode kb_Mod_put 142 = .ok (.lshr, 1) := by decide +kernel
theorem dq_Mod_put_143 : decode kb_Mod_put 143 = .ok (.lstore 7, 2) := by decide +kernel
theorem dq_Mod_put_145 : decode kb_Mod_put 145 = .ok (.iinc 11 1, 3) := by decide +kernel
theorem dq_Mod_put_148 : decode kb_Mod_put 148 = .ok (.iload 11, 2) := by decide +kernel
theorem dq_Mod_put_150 : decode kb_Mod_put 150 = .ok (.sipush 971, 3) := by decide +kernel
theorem dq_Mod_put_153 : decode kb_Mod_put 153 = .ok (.if_icmp .le 5, 3) := by decide +kernel
theorem dq_Mod_put_156 : decode kb_Mod_put 156 = .ok (.iconst 0, 1) := by decide +kernel
theorem dq_Mod_put_157 : decode kb_Mod_put 157 = .ok (.ireturn, 1) := by decide +kernel
theorem dq_Mod_put_158 : decode kb_Mod_put 158 = .ok (.aload_n 0, 1) := by decide +kernel
theorem dq_Mod_put_159 : decode kb_Mod_put 159 = .ok (.lload 7, 2) := by decide +kernel
theorem dq_Mod_put_161 : decode kb_Mod_put 161 = .ok (.ldc2_w 38, 3) := by decide +kernel
theorem dq_Mod_put_164 : decode kb_Mod_put 164 = .ok (.lcmp, 1) := by decide +kernel
theorem dq_Mod_put_165 : decode kb_Mod_put 165 = .ok (.ifCond .ge 8, 3) := by decide +kernel
theorem dq_Mod_put_168 : decode kb_Mod_put 168 = .ok (.lload 7, 2) := by decide +kernel
theorem dq_Mod_put_170 : decode kb_Mod_put 170 = .ok (.goto 20, 3) := by decide +kernel
theorem dq_Mod_put_173 : decode kb_Mod_put 173 = .ok (.lload 7, 2) := by decide +kernel
theorem dq_Mod_put_175 : decode kb_Mod_put 175 = .ok (.ldc2_w 38, 3) := by decide +kernel
theorem dq_Mod_put_178 : decode kb_Mod_put 178 = .ok (.lsub, 1) := by decide +kernel
theorem dq_Mod_put_179 : decode kb_Mod_put 179 = .ok (.iload 11, 2) := by decide +kernel
theorem dq_Mod_put_181 : decode kb_Mod_put 181 = .ok (.sipush 1075, 3) := by decide +kernel
theorem dq_Mod_put_184 : decode kb_Mod_put 184 = .ok (.iadd, 1) := by decide +kernel
theorem dq_Mod_put_185 : decode kb_Mod_put 185 = .ok (.i2l, 1) := by decide +kernel
theorem dq_Mod_put_186 : decode kb_Mod_put 186 = .ok (.bipush 52, 2) := by decide +kernel
theorem dq_Mod_put_188 : decode kb_Mod_put 188 = .ok (.lshl, 1) := by decide +kernel
theorem dq_Mod_put_189 : decode kb_Mod_put 189 = .ok (.lor, 1) := by decide +kernel
theorem dq_Mod_put_190 : decode kb_Mod_put 190 = .ok (.putfield 96, 3) := by decide +kernel
theorem dq_Mod_put_193 : decode kb_Mod_put 193 = .ok (.iconst 1, 1) := by decide +kernel
theorem dq_Mod_put_194 : decode kb_Mod_put 194 = .ok (.ireturn, 1) := by decide +kernel
theorem dq_Mod_nearest_0 : decode kb_Mod_nearest 0 = .ok (.aload_n 0, 1) := by decide +kernel
theorem dq_Mod_nearest_1 : decode kb_Mod_nearest 1 = .ok (.iconst 0, 1) := by decide +kernel
theorem dq_Mod_nearest_2 : decode kb_Mod_nearest 2 = .ok (.putfield 28, 3) := by decide +kernel
theorem dq_Mod_nearest_5 : decode kb_Mod_nearest 5 = .ok (.aload_n 0, 1) := by decide +kernel
theorem dq_Mod_nearest_6 : decode kb_Mod_nearest 6 = .ok (.aload_n 0, 1) := by decide +kernel
theorem dq_Mod_nearest_7 : decode kb_Mod_nearest 7 = .ok (.aload_n 0, 1) := by decide +kernel
theorem dq_Mod_nearest_8 : decode kb_Mod_nearest 8 = .ok (.getfield 61, 3) := by decide +kernel
theorem dq_Mod_nearest_11 : decode kb_Mod_nearest 11 = .ok (.invokevirtual 110, 3) := by decide +kernel
theorem dq_Mod_nearest_14 : decode kb_Mod_nearest 14 = .ok (.ifCond .ne 7, 3) := by decide +kernel
theorem dq_Mod_nearest_17 : decode kb_Mod_nearest 17 = .ok (.iconst 1, 1) := by decide +kernel
theorem dq_Mod_nearest_18 : decode kb_Mod_nearest 18 = .ok (.goto 4, 3) := by decide +kernel
theorem dq_Mod_nearest_21 : decode kb_Mod_nearest 21 = .ok (.iconst 0, 1) := by decide +kernel
theorem dq_Mod_nearest_22 : decode kb_Mod_nearest 22 = .ok (.iconst 1, 1) := by decide +kernel
theorem dq_Mod_nearest_23 : decode kb_Mod_nearest 23 = .ok (.invokevirtual 32, 3) := by decide +kernel
theorem dq_Mod_nearest_26 : decode kb_Mod_nearest 26 = .ok (.ifCond .eq 5, 3) := by decide +kernel
theorem dq_Mod_nearest_29 : decode kb_Mod_nearest 29 = .ok (.lconst 0, 1) := by decide +kernel
theorem dq_Mod_nearest_30 : decode kb_Mod_nearest 30 = .ok (.lreturn, 1) := by decide +kernel
theorem dq_Mod_nearest_31 : decode kb_Mod_nearest 31 = .ok (.aload_n 0, 1) := by decide +kernel
theorem dq_Mod_nearest_32 : decode kb_Mod_nearest 32 = .ok (.getfield 96, 3) := by decide +kernel
theorem dq_Mod_nearest_35 : decode kb_Mod_nearest 35 = .ok (.aload_n 0, 1) := by decide +kernel
theorem dq_Mod_nearest_36 : decode kb_Mod_nearest 36 = .ok (.getfield 54, 3) := by decide +kernel
theorem dq_Mod_nearest_39 : decode kb_Mod_nearest 39 = .ok (.ifCond .eq 9, 3) := by decide +kernel
theorem dq_Mod_nearest_42 : decode kb_Mod_nearest 42 = .ok (.ldc2_w 114, 3) := by decide +kernel
theorem dq_Mod_nearest_45 : decode kb_Mod_nearest 45 = .ok (.goto 4, 3) := by decide +kernel
theorem dq_Mod_nearest_48 : decode kb_Mod_nearest 48 = .ok (.lconst 0, 1) := by decide +kernel
theorem dq_Mod_nearest_49 : decode kb_Mod_nearest 49 = .ok (.lor, 1) := by decide +kernel
theorem dq_Mod_nearest_50 : decode kb_Mod_nearest 50 = .ok (.lreturn, 1) := by decide +kernel
theorem dq_Mod_exactly_0 : decode kb_Mod_exactly 0 = .ok (.aload_n 0, 1) := by decide +kernel
theorem dq_Mod_exactly_1 : decode kb_Mod_exactly 1 = .ok (.iconst 0, 1) := by decide +kernel
theorem dq_Mod_exactly_2 : decode kb_Mod_exactly 2 = .ok (.putfield 40, 3) := by decide +kernel
theorem dq_Mod_exactly_5 : decode kb_Mod_exactly 5 = .ok (.aload_n 0, 1) := by decide +kernel
theorem dq_Mod_exactly_6 : decode kb_Mod_exactly 6 = .ok (.iconst 0, 1) := by decide +kernel
theorem dq_Mod_exactly_7 : decode kb_Mod_exactly 7 = .ok (.putfield 43, 3) := by decide +kernel
theorem dq_Mod_exactly_10 : decode kb_Mod_exactly 10 = .ok (.lload_n 1, 1) := by decide +kernel
theorem dq_Mod_exactly_11 : decode kb_Mod_exactly 11 = .ok (.lstore 4, 2) := by decide +kernel
theorem dq_Mod_exactly_13 : decode kb_Mod_exactly 13 = .ok (.lload 4, 2) := by decide +kernel
theorem dq_Mod_exactly_15 : decode kb_Mod_exactly 15 = .ok (.lconst 0, 1) := by decide +kernel
theorem dq_Mod_exactly_16 : decode kb_Mod_exactly 16 = .ok (.lcmp, 1) := by decide +kernel
theorem dq_Mod_exactly_17 : decode kb_Mod_exactly 17 = .ok (.ifCond .le 24, 3) := by decide +kernel
theorem dq_Mod_exactly_20 : decode kb_Mod_exactly 20 = .ok (.aload_n 0, 1) := by decide +kernel
theorem dq_Mod_exactly_21 : decode kb_Mod_exactly 21 = .ok (.dup, 1) := by decide +kernel
theorem dq_Mod_exactly_22 : decode kb_Mod_exactly 22 = .ok (.getfield 40, 3) := by decide +kernel
theorem dq_Mod_exactly_25 : decode kb_Mod_exactly 25 = .ok (.iconst 1, 1) := by decide +kernel
theorem dq_Mod_exactly_26 : decode kb_Mod_exactly 26 = .ok (.iadd, 1) := by decide +kernel
theorem dq_Mod_exactly_27 : decode kb_Mod_exactly 27 = .ok (.putfield 40, 3) := by decide +kernel
theorem dq_Mod_exactly_30 : decode kb_Mod_exactly 30 = .ok (.lload 4, 2) := by decide +kernel
theorem dq_Mod_exactly_32 : decode kb_Mod_exactly 32 = .ok (.ldc2_w 46, 3) := by decide +kernel
theorem dq_Mod_exactly_35 : decode kb_Mod_exactly 35 = .ok (.ldiv, 1) := by decide +kernel
theorem dq_Mod_exactly_36 : decode kb_Mod_exactly 36 = .ok (.lstore 4, 2) := by decide +kernel
theorem dq_Mod_exactly_38 : decode kb_Mod_exactly 38 = .ok (.goto (-25), 3) := by decide +kernel
theorem dq_Mod_exactly_41 : decode kb_Mod_exactly 41 = .ok (.lload_n 1, 1) := by decide +kernel
theorem dq_Mod_exactly_42 : decode kb_Mod_exactly 42 = .ok (.lstore 4, 2) := by decide +kernel
theorem dq_Mod_exactly_44 : decode kb_Mod_exactly 44 = .ok (.aload_n 0, 1) := by decide +kernel
theorem dq_Mod_exactly_45 : decode kb_Mod_exactly 45 = .ok (.getfield 40, 3) := by decide +kernel
end
section
theorem dq_Mod_exactly_48 : decode kb_Mod_exactly 48 = .ok (.iconst 1, 1) := by decide +kernel
theorem dq_Mod_exactly_49 : decode kb_Mod_exactly 49 = .ok (.isub, 1) := by decide +kernel
theorem dq_Mod_exactly_50 : decode kb_Mod_exactly 50 = .ok (.istore 6, 2) := by decide +kernel
theorem dq_Mod_exactly_52 : decode kb_Mod_exactly 52 = .ok (.iload 6, 2) := by decide +kernel
theorem dq_Mod_exactly_54 : decode kb_Mod_exactly 54 = .ok (.ifCond .lt 31, 3) := by decide +kernel
theorem dq_Mod_exactly_57 : decode kb_Mod_exactly 57 = .ok (.aload_n 0, 1) := by decide +kernel
theorem dq_Mod_exactly_58 : decode kb_Mod_exactly 58 = .ok (.getfield 13, 3) := by decide +kernel
theorem dq_Mod_exactly_61 : decode kb_Mod_exactly 61 = .ok (.iload 6, 2) := by decide +kernel
theorem dq_Mod_exactly_63 : decode kb_Mod_exactly 63 = .ok (.lload 4, 2) := by decide +kernel
theorem dq_Mod_exactly_65 : decode kb_Mod_exactly 65 = .ok (.ldc2_w 46, 3) := by decide +kernel
theorem dq_Mod_exactly_68 : decode kb_Mod_exactly 68 = .ok (.lrem, 1) := by decide +kernel
theorem dq_Mod_exactly_69 : decode kb_Mod_exactly 69 = .ok (.l2i, 1) := by decide +kernel
theorem dq_Mod_exactly_70 : decode kb_Mod_exactly 70 = .ok (.iastore, 1) := by decide +kernel
theorem dq_Mod_exactly_71 : decode kb_Mod_exactly 71 = .ok (.lload 4, 2) := by decide +kernel
theorem dq_Mod_exactly_73 : decode kb_Mod_exactly 73 = .ok (.ldc2_w 46, 3) := by decide +kernel
theorem dq_Mod_exactly_76 : decode kb_Mod_exactly 76 = .ok (.ldiv, 1) := by decide +kernel
theorem dq_Mod_exactly_77 : decode kb_Mod_exactly 77 = .ok (.lstore 4, 2) := by decide +kernel
theorem dq_Mod_exactly_79 : decode kb_Mod_exactly 79 = .ok (.iinc 6 (-1), 3) := by decide +kernel
theorem dq_Mod_exactly_82 : decode kb_Mod_exactly 82 = .ok (.goto (-30), 3) := by decide +kernel
theorem dq_Mod_exactly_85 : decode kb_Mod_exactly 85 = .ok (.iload_n 3, 1) := by decide +kernel
theorem dq_Mod_exactly_86 : decode kb_Mod_exactly 86 = .ok (.istore 6, 2) := by decide +kernel
theorem dq_Mod_exactly_88 : decode kb_Mod_exactly 88 = .ok (.iload 6, 2) := by decide +kernel
theorem dq_Mod_exactly_90 : decode kb_Mod_exactly 90 = .ok (.ifCond .le 13, 3) := by decide +kernel
theorem dq_Mod_exactly_93 : decode kb_Mod_exactly 93 = .ok (.aload_n 0, 1) := by decide +kernel
theorem dq_Mod_exactly_94 : decode kb_Mod_exactly 94 = .ok (.invokevirtual 48, 3) := by decide +kernel
theorem dq_Mod_exactly_97 : decode kb_Mod_exactly 97 = .ok (.iinc 6 (-1), 3) := by decide +kernel
theorem dq_Mod_exactly_100 : decode kb_Mod_exactly 100 = .ok (.goto (-12), 3) := by decide +kernel
theorem dq_Mod_exactly_103 : decode kb_Mod_exactly 103 = .ok (.iload_n 3, 1) := by decide +kernel
theorem dq_Mod_exactly_104 : decode kb_Mod_exactly 104 = .ok (.istore 6, 2) := by decide +kernel
theorem dq_Mod_exactly_106 : decode kb_Mod_exactly 106 = .ok (.iload 6, 2) := by decide +kernel
theorem dq_Mod_exactly_108 : decode kb_Mod_exactly 108 = .ok (.ifCond .ge 13, 3) := by decide +kernel
theorem dq_Mod_exactly_111 : decode kb_Mod_exactly 111 = .ok (.aload_n 0, 1) := by decide +kernel
theorem dq_Mod_exactly_112 : decode kb_Mod_exactly 112 = .ok (.invokevirtual 51, 3) := by decide +kernel
theorem dq_Mod_exactly_115 : decode kb_Mod_exactly 115 = .ok (.iinc 6 1, 3) := by decide +kernel
theorem dq_Mod_exactly_118 : decode kb_Mod_exactly 118 = .ok (.goto (-12), 3) := by decide +kernel
theorem dq_Mod_exactly_121 : decode kb_Mod_exactly 121 = .ok (.aload_n 0, 1) := by decide +kernel
theorem dq_Mod_exactly_122 : decode kb_Mod_exactly 122 = .ok (.getfield 40, 3) := by decide +kernel
theorem dq_Mod_exactly_125 : decode kb_Mod_exactly 125 = .ok (.ifCond .le 40, 3) := by decide +kernel
theorem dq_Mod_exactly_128 : decode kb_Mod_exactly 128 = .ok (.aload_n 0, 1) := by decide +kernel
theorem dq_Mod_exactly_129 : decode kb_Mod_exactly 129 = .ok (.getfield 13, 3) := by decide +kernel
theorem dq_Mod_exactly_132 : decode kb_Mod_exactly 132 = .ok (.aload_n 0, 1) := by decide +kernel
theorem dq_Mod_exactly_133 : decode kb_Mod_exactly 133 = .ok (.getfield 40, 3) := by decide +kernel
theorem dq_Mod_exactly_136 : decode kb_Mod_exactly 136 = .ok (.iconst 1, 1) := by decide +kernel
theorem dq_Mod_exactly_137 : decode kb_Mod_exactly 137 = .ok (.isub, 1) := by decide +kernel
theorem dq_Mod_exactly_138 : decode kb_Mod_exactly 138 = .ok (.iaload, 1) := by decide +kernel
theorem dq_Mod_exactly_139 : decode kb_Mod_exactly 139 = .ok (.ifCond .ne 26, 3) := by decide +kernel
theorem dq_Mod_exactly_142 : decode kb_Mod_exactly 142 = .ok (.aload_n 0, 1) := by decide +kernel
theorem dq_Mod_exactly_143 : decode kb_Mod_exactly 143 = .ok (.dup, 1) := by decide +kernel
theorem dq_Mod_exactly_144 : decode kb_Mod_exactly 144 = .ok (.getfield 40, 3) := by decide +kernel
theorem dq_Mod_exactly_147 : decode kb_Mod_exactly 147 = .ok (.iconst 1, 1) := by decide +kernel
theorem dq_Mod_exactly_148 : decode kb_Mod_exactly 148 = .ok (.isub, 1) := by decide +kernel
theorem dq_Mod_exactly_149 : decode kb_Mod_exactly 149 = .ok (.putfield 40, 3) := by decide +kernel
theorem dq_Mod_exactly_152 : decode kb_Mod_exactly 152 = .ok (.aload_n 0, 1) := by decide +kernel
theorem dq_Mod_exactly_153 : decode kb_Mod_exactly 153 = .ok (.dup, 1) := by decide +kernel
theorem dq_Mod_exactly_154 : decode kb_Mod_exactly 154 = .ok (.getfield 43, 3) := by decide +kernel
theorem dq_Mod_exactly_157 : decode kb_Mod_exactly 157 = .ok (.iconst 1, 1) := by decide +kernel
theorem dq_Mod_exactly_158 : decode kb_Mod_exactly 158 = .ok (.isub, 1) := by decide +kernel
theorem dq_Mod_exactly_159 : decode kb_Mod_exactly 159 = .ok (.putfield 43, 3) := by decide +kernel
theorem dq_Mod_exactly_162 : decode kb_Mod_exactly 162 = .ok (.goto (-41), 3) := by decide +kernel
theorem dq_Mod_exactly_165 : decode kb_Mod_exactly 165 = .ok (.return_, 1) := by decide +kernel
theorem dq_Mod_compare_0 : decode kb_Mod_compare 0 = .ok (.aload_n 0, 1) := by decide +kernel
theorem dq_Mod_compare_1 : decode kb_Mod_compare 1 = .ok (.getfield 61, 3) := by decide +kernel
theorem dq_Mod_compare_4 : decode kb_Mod_compare 4 = .ok (.ifCond .eq 7, 3) := by decide +kernel
theorem dq_Mod_compare_7 : decode kb_Mod_compare 7 = .ok (.iload_n 2, 1) := by decide +kernel
theorem dq_Mod_compare_8 : decode kb_Mod_compare 8 = .ok (.ifCond .ne 28, 3) := by decide +kernel
theorem dq_Mod_compare_11 : decode kb_Mod_compare 11 = .ok (.aload_n 0, 1) := by decide +kernel
theorem dq_Mod_compare_12 : decode kb_Mod_compare 12 = .ok (.getfield 61, 3) := by decide +kernel
theorem dq_Mod_compare_15 : decode kb_Mod_compare 15 = .ok (.iload_n 2, 1) := by decide +kernel
theorem dq_Mod_compare_16 : decode kb_Mod_compare 16 = .ok (.if_icmp .ne 7, 3) := by decide +kernel
theorem dq_Mod_compare_19 : decode kb_Mod_compare 19 = .ok (.iconst 0, 1) := by decide +kernel
theorem dq_Mod_compare_20 : decode kb_Mod_compare 20 = .ok (.goto 15, 3) := by decide +kernel
theorem dq_Mod_compare_23 : decode kb_Mod_compare 23 = .ok (.aload_n 0, 1) := by decide +kernel
theorem dq_Mod_compare_24 : decode kb_Mod_compare 24 = .ok (.getfield 61, 3) := by decide +kernel
theorem dq_Mod_compare_27 : decode kb_Mod_compare 27 = .ok (.ifCond .ne 7, 3) := by decide +kernel
theorem dq_Mod_compare_30 : decode kb_Mod_compare 30 = .ok (.iconst (-1), 1) := by decide +kernel
theorem dq_Mod_compare_31 : decode kb_Mod_compare 31 = .ok (.goto 4, 3) := by decide +kernel
theorem dq_Mod_compare_34 : decode kb_Mod_compare 34 = .ok (.iconst 1, 1) := by decide +kernel
theorem dq_Mod_compare_35 : decode kb_Mod_compare 35 = .ok (.ireturn, 1) := by decide +kernel
theorem dq_Mod_compare_36 : decode kb_Mod_compare 36 = .ok (.aload_n 0, 1) := by decide +kernel
theorem dq_Mod_compare_37 : decode kb_Mod_compare 37 = .ok (.getfield 64, 3) := by decide +kernel
theorem dq_Mod_compare_40 : decode kb_Mod_compare 40 = .ok (.iload_n 3, 1) := by decide +kernel
theorem dq_Mod_compare_41 : decode kb_Mod_compare 41 = .ok (.if_icmp .eq 17, 3) := by decide +kernel
theorem dq_Mod_compare_44 : decode kb_Mod_compare 44 = .ok (.aload_n 0, 1) := by decide +kernel
theorem dq_Mod_compare_45 : decode kb_Mod_compare 45 = .ok (.getfield 64, 3) := by decide +kernel
theorem dq_Mod_compare_48 : decode kb_Mod_compare 48 = .ok (.iload_n 3, 1) := by decide +kernel
theorem dq_Mod_compare_49 : decode kb_Mod_compare 49 = .ok (.if_icmp .ge 7, 3) := by decide +kernel
theorem dq_Mod_compare_52 : decode kb_Mod_compare 52 = .ok (.iconst (-1), 1) := by decide +kernel
theorem dq_Mod_compare_53 : decode kb_Mod_compare 53 = .ok (.goto 4, 3) := by decide +kernel
theorem dq_Mod_compare_56 : decode kb_Mod_compare 56 = .ok (.iconst 1, 1) := by decide +kernel
theorem dq_Mod_compare_57 : decode kb_Mod_compare 57 = .ok (.ireturn, 1) := by decide +kernel
theorem dq_Mod_compare_58 : decode kb_Mod_compare 58 = .ok (.iconst 0, 1) := by decide +kernel
theorem dq_Mod_compare_59 : decode kb_Mod_compare 59 = .ok (.istore 4, 2) := by decide +kernel
theorem dq_Mod_compare_61 : decode kb_Mod_compare 61 = .ok (.iload 4, 2) := by decide +kernel
theorem dq_Mod_compare_63 : decode kb_Mod_compare 63 = .ok (.aload_n 0, 1) := by decide +kernel
theorem dq_Mod_compare_64 : decode kb_Mod_compare 64 = .ok (.getfield 61, 3) := by decide +kernel
theorem dq_Mod_compare_67 : decode kb_Mod_compare 67 = .ok (.if_icmp .lt 9, 3) := by decide +kernel
theorem dq_Mod_compare_70 : decode kb_Mod_compare 70 = .ok (.iload 4, 2) := by decide +kernel
theorem dq_Mod_compare_72 : decode kb_Mod_compare 72 = .ok (.iload_n 2, 1) := by decide +kernel
theorem dq_Mod_compare_73 : decode kb_Mod_compare 73 = .ok (.if_icmp .ge 67, 3) := by decide +kernel
theorem dq_Mod_compare_76 : decode kb_Mod_compare 76 = .ok (.iload 4, 2) := by decide +kernel
theorem dq_Mod_compare_78 : decode kb_Mod_compare 78 = .ok (.aload_n 0, 1) := by decide +kernel
theorem dq_Mod_compare_79 : decode kb_Mod_compare 79 = .ok (.getfield 61, 3) := by decide +kernel
theorem dq_Mod_compare_82 : decode kb_Mod_compare 82 = .ok (.if_icmp .ge 13, 3) := by decide +kernel
theorem dq_Mod_compare_85 : decode kb_Mod_compare 85 = .ok (.aload_n 0, 1) := by decide +kernel
theorem dq_Mod_compare_86 : decode kb_Mod_compare 86 = .ok (.getfield 9, 3) := by decide +kernel
theorem dq_Mod_compare_89 : decode kb_Mod_compare 89 = .ok (.iload 4, 2) := by decide +kernel
theorem dq_Mod_compare_91 : decode kb_Mod_compare 91 = .ok (.iaload, 1) := by decide +kernel
theorem dq_Mod_compare_92 : decode kb_Mod_compare 92 = .ok (.goto 4, 3) := by decide +kernel
theorem dq_Mod_compare_95 : decode kb_Mod_compare 95 = .ok (.iconst 0, 1) := by decide +kernel
theorem dq_Mod_compare_96 : decode kb_Mod_compare 96 = .ok (.istore 5, 2) := by decide +kernel
theorem dq_Mod_compare_98 : decode kb_Mod_compare 98 = .ok (.iload 4, 2) := by decide +kernel
theorem dq_Mod_compare_100 : decode kb_Mod_compare 100 = .ok (.iload_n 2, 1) := by decide +kernel
theorem dq_Mod_compare_101 : decode kb_Mod_compare 101 = .ok (.if_icmp .ge 10, 3) := by decide +kernel
theorem dq_Mod_compare_104 : decode kb_Mod_compare 104 = .ok (.aload_n 1, 1) := by decide +kernel
theorem dq_Mod_compare_105 : decode kb_Mod_compare 105 = .ok (.iload 4, 2) := by decide +kernel
theorem dq_Mod_compare_107 : decode kb_Mod_compare 107 = .ok (.iaload, 1) := by decide +kernel
theorem dq_Mod_compare_108 : decode kb_Mod_compare 108 = .ok (.goto 4, 3) := by decide +kernel
theorem dq_Mod_compare_111 : decode kb_Mod_compare 111 = .ok (.iconst 0, 1) := by decide +kernel
theorem dq_Mod_compare_112 : decode kb_Mod_compare 112 = .ok (.istore 6, 2) := by decide +kernel
theorem dq_Mod_compare_114 : decode kb_Mod_compare 114 = .ok (.iload 5, 2) := by decide +kernel
theorem dq_Mod_compare_116 : decode kb_Mod_compare 116 = .ok (.iload 6, 2) := by decide +kernel
theorem dq_Mod_compare_118 : decode kb_Mod_compare 118 = .ok (.if_icmp .eq 16, 3) := by decide +kernel
theorem dq_Mod_compare_121 : decode kb_Mod_compare 121 = .ok (.iload 5, 2) := by decide +kernel
theorem dq_Mod_compare_123 : decode kb_Mod_compare 123 = .ok (.iload 6, 2) := by decide +kernel
theorem dq_Mod_compare_125 : decode kb_Mod_compare 125 = .ok (.if_icmp .ge 7, 3) := by decide +kernel
theorem dq_Mod_compare_128 : decode kb_Mod_compare 128 = .ok (.iconst (-1), 1) := by decide +kernel
theorem dq_Mod_compare_129 : decode kb_Mod_compare 129 = .ok (.goto 4, 3) := by decide +kernel
theorem dq_Mod_compare_132 : decode kb_Mod_compare 132 = .ok (.iconst 1, 1) := by decide +kernel
theorem dq_Mod_compare_133 : decode kb_Mod_compare 133 = .ok (.ireturn, 1) := by decide +kernel
theorem dq_Mod_compare_134 : decode kb_Mod_compare 134 = .ok (.iinc 4 1, 3) := by decide +kernel
theorem dq_Mod_compare_137 : decode kb_Mod_compare 137 = .ok (.goto (-76), 3) := by decide +kernel
theorem dq_Mod_compare_140 : decode kb_Mod_compare 140 = .ok (.iconst 0, 1) := by decide +kernel
theorem dq_Mod_compare_141 : decode kb_Mod_compare 141 = .ok (.ireturn, 1) := by decide +kernel
theorem dq_Mod_enough_0 : decode kb_Mod_enough 0 = .ok (.aload_n 0, 1) := by decide +kernel
theorem dq_Mod_enough_1 : decode kb_Mod_enough 1 = .ok (.iconst 0, 1) := by decide +kernel
theorem dq_Mod_enough_2 : decode kb_Mod_enough 2 = .ok (.putfield 28, 3) := by decide +kernel
theorem dq_Mod_enough_5 : decode kb_Mod_enough 5 = .ok (.aload_n 0, 1) := by decide +kernel
theorem dq_Mod_enough_6 : decode kb_Mod_enough 6 = .ok (.aload_n 0, 1) := by decide +kernel
theorem dq_Mod_enough_7 : decode kb_Mod_enough 7 = .ok (.aload_n 0, 1) := by decide +kernel
theorem dq_Mod_enough_8 : decode kb_Mod_enough 8 = .ok (.getfield 61, 3) := by decide +kernel
theorem dq_Mod_enough_11 : decode kb_Mod_enough 11 = .ok (.invokevirtual 110, 3) := by decide +kernel
theorem dq_Mod_enough_14 : decode kb_Mod_enough 14 = .ok (.ifCond .ne 7, 3) := by decide +kernel
theorem dq_Mod_enough_17 : decode kb_Mod_enough 17 = .ok (.iconst 1, 1) := by decide +kernel
theorem dq_Mod_enough_18 : decode kb_Mod_enough 18 = .ok (.goto 4, 3) := by decide +kernel
theorem dq_Mod_enough_21 : decode kb_Mod_enough 21 = .ok (.iconst 0, 1) := by decide +kernel
theorem dq_Mod_enough_22 : decode kb_Mod_enough 22 = .ok (.iconst 1, 1) := by decide +kernel
theorem dq_Mod_enough_23 : decode kb_Mod_enough 23 = .ok (.invokevirtual 32, 3) := by decide +kernel
theorem dq_Mod_enough_26 : decode kb_Mod_enough 26 = .ok (.ifCond .eq 5, 3) := by decide +kernel
theorem dq_Mod_enough_29 : decode kb_Mod_enough 29 = .ok (.iconst 0, 1) := by decide +kernel
theorem dq_Mod_enough_30 : decode kb_Mod_enough 30 = .ok (.ireturn, 1) := by decide +kernel
theorem dq_Mod_enough_31 : decode kb_Mod_enough 31 = .ok (.aload_n 0, 1) := by decide +kernel
theorem dq_Mod_enough_32 : decode kb_Mod_enough 32 = .ok (.getfield 96, 3) := by decide +kernel
theorem dq_Mod_enough_35 : decode kb_Mod_enough 35 = .ok (.bipush 52, 2) := by decide +kernel
theorem dq_Mod_enough_37 : decode kb_Mod_enough 37 = .ok (.lushr, 1) := by decide +kernel
theorem dq_Mod_enough_38 : decode kb_Mod_enough 38 = .ok (.l2i, 1) := by decide +kernel
theorem dq_Mod_enough_39 : decode kb_Mod_enough 39 = .ok (.istore_n 1, 1) := by decide +kernel
theorem dq_Mod_enough_40 : decode kb_Mod_enough 40 = .ok (.iload_n 1, 1) := by decide +kernel
theorem dq_Mod_enough_41 : decode kb_Mod_enough 41 = .ok (.ifCond .le 7, 3) := by decide +kernel
theorem dq_Mod_enough_44 : decode kb_Mod_enough 44 = .ok (.iload_n 1, 1) := by decide +kernel
theorem dq_Mod_enough_45 : decode kb_Mod_enough 45 = .ok (.goto 4, 3) := by decide +kernel
theorem dq_Mod_enough_48 : decode kb_Mod_enough 48 = .ok (.iconst 1, 1) := by decide +kernel
theorem dq_Mod_enough_49 : decode kb_Mod_enough 49 = .ok (.sipush 1075, 3) := by decide +kernel
theorem dq_Mod_enough_52 : decode kb_Mod_enough 52 = .ok (.isub, 1) := by decide +kernel
theorem dq_Mod_enough_53 : decode kb_Mod_enough 53 = .ok (.istore_n 2, 1) := by decide +kernel
theorem dq_Mod_enough_54 : decode kb_Mod_enough 54 = .ok (.aload_n 0, 1) := by decide +kernel
theorem dq_Mod_enough_55 : decode kb_Mod_enough 55 = .ok (.getfield 96, 3) := by decide +kernel
theorem dq_Mod_enough_58 : decode kb_Mod_enough 58 = .ok (.ldc2_w 36, 3) := by decide +kernel
theorem dq_Mod_enough_61 : decode kb_Mod_enough 61 = .ok (.land, 1) := by decide +kernel
theorem dq_Mod_enough_62 : decode kb_Mod_enough 62 = .ok (.iload_n 1, 1) := by decide +kernel
theorem dq_Mod_enough_63 : decode kb_Mod_enough 63 = .ok (.ifCond .le 9, 3) := by decide +kernel
theorem dq_Mod_enough_66 : decode kb_Mod_enough 66 = .ok (.ldc2_w 38, 3) := by decide +kernel
theorem dq_Mod_enough_69 : decode kb_Mod_enough 69 = .ok (.goto 4, 3) := by decide +kernel
theorem dq_Mod_enough_72 : decode kb_Mod_enough 72 = .ok (.lconst 0, 1) := by decide +kernel
theorem dq_Mod_enough_73 : decode kb_Mod_enough 73 = .ok (.lor, 1) := by decide +kernel
theorem dq_Mod_enough_74 : decode kb_Mod_enough 74 = .ok (.lstore_n 3, 1) := by decide +kernel
theorem dq_Mod_enough_75 : decode kb_Mod_enough 75 = .ok (.lload_n 3, 1) := by decide +kernel
theorem dq_Mod_enough_76 : decode kb_Mod_enough 76 = .ok (.lconst 1, 1) := by decide +kernel
theorem dq_Mod_enough_77 : decode kb_Mod_enough 77 = .ok (.land, 1) := by decide +kernel
theorem dq_Mod_enough_78 : decode kb_Mod_enough 78 = .ok (.lconst 0, 1) := by decide +kernel
theorem dq_Mod_enough_79 : decode kb_Mod_enough 79 = .ok (.lcmp, 1) := by decide +kernel
theorem dq_Mod_enough_80 : decode kb_Mod_enough 80 = .ok (.ifCond .ne 7, 3) := by decide +kernel
theorem dq_Mod_enough_83 : decode kb_Mod_enough 83 = .ok (.iconst 1, 1) := by decide +kernel
theorem dq_Mod_enough_84 : decode kb_Mod_enough 84 = .ok (.goto 4, 3) := by decide +kernel
theorem dq_Mod_enough_87 : decode kb_Mod_enough 87 = .ok (.iconst 0, 1) := by decide +kernel
theorem dq_Mod_enough_88 : decode kb_Mod_enough 88 = .ok (.istore 5, 2) := by decide +kernel
theorem dq_Mod_enough_90 : decode kb_Mod_enough 90 = .ok (.aload_n 0, 1) := by decide +kernel
theorem dq_Mod_enough_91 : decode kb_Mod_enough 91 = .ok (.ldc2_w 116, 3) := by decide +kernel
theorem dq_Mod_enough_94 : decode kb_Mod_enough 94 = .ok (.lload_n 3, 1) := by decide +kernel
theorem dq_Mod_enough_95 : decode kb_Mod_enough 95 = .ok (.lmul, 1) := by decide +kernel
theorem dq_Mod_enough_96 : decode kb_Mod_enough 96 = .ok (.lconst 1, 1) := by decide +kernel
theorem dq_Mod_enough_97 : decode kb_Mod_enough 97 = .ok (.ladd, 1) := by decide +kernel
theorem dq_Mod_enough_98 : decode kb_Mod_enough 98 = .ok (.iload_n 2, 1) := by decide +kernel
theorem dq_Mod_enough_99 : decode kb_Mod_enough 99 = .ok (.iconst 1, 1) := by decide +kernel
theorem dq_Mod_enough_100 : decode kb_Mod_enough 100 = .ok (.isub, 1) := by decide +kernel
theorem dq_Mod_enough_101 : decode kb_Mod_enough 101 = .ok (.invokevirtual 118, 3) := by decide +kernel
theorem dq_Mod_enough_104 : decode kb_Mod_enough 104 = .ok (.aload_n 0, 1) := by decide +kernel
theorem dq_Mod_enough_105 : decode kb_Mod_enough 105 = .ok (.aload_n 0, 1) := by decide +kernel
theorem dq_Mod_enough_106 : decode kb_Mod_enough 106 = .ok (.getfield 40, 3) := by decide +kernel
theorem dq_Mod_enough_109 : decode kb_Mod_enough 109 = .ok (.putfield 122, 3) := by decide +kernel
theorem dq_Mod_enough_112 : decode kb_Mod_enough 112 = .ok (.aload_n 0, 1) := by decide +kernel
theorem dq_Mod_enough_113 : decode kb_Mod_enough 113 = .ok (.aload_n 0, 1) := by decide +kernel
theorem dq_Mod_enough_114 : decode kb_Mod_enough 114 = .ok (.getfield 40, 3) := by decide +kernel
theorem dq_Mod_enough_117 : decode kb_Mod_enough 117 = .ok (.aload_n 0, 1) := by decide +kernel
theorem dq_Mod_enough_118 : decode kb_Mod_enough 118 = .ok (.getfield 43, 3) := by decide +kernel
theorem dq_Mod_enough_121 : decode kb_Mod_enough 121 = .ok (.isub, 1) := by decide +kernel
theorem dq_Mod_enough_122 : decode kb_Mod_enough 122 = .ok (.putfield 125, 3) := by decide +kernel
theorem dq_Mod_enough_125 : decode kb_Mod_enough 125 = .ok (.iconst 0, 1) := by decide +kernel
theorem dq_Mod_enough_126 : decode kb_Mod_enough 126 = .ok (.istore 6, 2) := by decide +kernel
theorem dq_Mod_enough_128 : decode kb_Mod_enough 128 = .ok (.iload 6, 2) := by decide +kernel
theorem dq_Mod_enough_130 : decode kb_Mod_enough 130 = .ok (.aload_n 0, 1) := by decide +kernel
theorem dq_Mod_enough_131 : decode kb_Mod_enough 131 = .ok (.getfield 40, 3) := by decide +kernel
theorem dq_Mod_enough_134 : decode kb_Mod_enough 134 = .ok (.if_icmp .ge 23, 3) := by decide +kernel
theorem dq_Mod_enough_137 : decode kb_Mod_enough 137 = .ok (.aload_n 0, 1) := by decide +kernel
theorem dq_Mod_enough_138 : decode kb_Mod_enough 138 = .ok (.getfield 25, 3) := by decide +kernel
theorem dq_Mod_enough_141 : decode kb_Mod_enough 141 = .ok (.iload 6, 2) := by decide +kernel
theorem dq_Mod_enough_143 : decode kb_Mod_enough 143 = .ok (.aload_n 0, 1) := by decide +kernel
theorem dq_Mod_enough_144 : decode kb_Mod_enough 144 = .ok (.getfield 13, 3) := by decide +kernel
theorem dq_Mod_enough_147 : decode kb_Mod_enough 147 = .ok (.iload 6, 2) := by decide +kernel
theorem dq_Mod_enough_149 : decode kb_Mod_enough 149 = .ok (.iaload, 1) := by decide +kernel
theorem dq_Mod_enough_150 : decode kb_Mod_enough 150 = .ok (.iastore, 1) := by decide +kernel
theorem dq_Mod_enough_151 : decode kb_Mod_enough 151 = .ok (.iinc 6 1, 3) := by decide +kernel
theorem dq_Mod_enough_154 : decode kb_Mod_enough 154 = .ok (.goto (-26), 3) := by decide +kernel
theorem dq_Mod_enough_157 : decode kb_Mod_enough 157 = .ok (.lload_n 3, 1) := by decide +kernel
theorem dq_Mod_enough_158 : decode kb_Mod_enough 158 = .ok (.ldc2_w 38, 3) := by decide +kernel
theorem dq_Mod_enough_161 : decode kb_Mod_enough 161 = .ok (.lcmp, 1) := by decide +kernel
theorem dq_Mod_enough_162 : decode kb_Mod_enough 162 = .ok (.ifCond .ne 12, 3) := by decide +kernel
theorem dq_Mod_enough_165 : decode kb_Mod_enough 165 = .ok (.iload_n 1, 1) := by decide +kernel
theorem dq_Mod_enough_166 : decode kb_Mod_enough 166 = .ok (.iconst 1, 1) := by decide +kernel
theorem dq_Mod_enough_167 : decode kb_Mod_enough 167 = .ok (.if_icmp .le 7, 3) := by decide +kernel
theorem dq_Mod_enough_170 : decode kb_Mod_enough 170 = .ok (.iconst 1, 1) := by decide +kernel
theorem dq_Mod_enough_171 : decode kb_Mod_enough 171 = .ok (.goto 4, 3) := by decide +kernel
theorem dq_Mod_enough_174 : decode kb_Mod_enough 174 = .ok (.iconst 0, 1) := by decide +kernel
theorem dq_Mod_enough_175 : decode kb_Mod_enough 175 = .ok (.istore 6, 2) := by decide +kernel
theorem dq_Mod_enough_177 : decode kb_Mod_enough 177 = .ok (.lload_n 3, 1) := by decide +kernel
theorem dq_Mod_enough_178 : decode kb_Mod_enough 178 = .ok (.lconst 0, 1) := by decide +kernel
theorem dq_Mod_enough_179 : decode kb_Mod_enough 179 = .ok (.lcmp, 1) := by decide +kernel
theorem dq_Mod_enough_180 : decode kb_Mod_enough 180 = .ok (.ifCond .le 43, 3) := by decide +kernel
theorem dq_Mod_enough_183 : decode kb_Mod_enough 183 = .ok (.aload_n 0, 1) := by decide +kernel
theorem dq_Mod_enough_184 : decode kb_Mod_enough 184 = .ok (.iload 6, 2) := by decide +kernel
theorem dq_Mod_enough_186 : decode kb_Mod_enough 186 = .ok (.ifCond .eq 13, 3) := by decide +kernel
theorem dq_Mod_enough_189 : decode kb_Mod_enough 189 = .ok (.ldc2_w 128, 3) := by decide +kernel
theorem dq_Mod_enough_192 : decode kb_Mod_enough 192 = .ok (.lload_n 3, 1) := by decide +kernel
theorem dq_Mod_enough_193 : decode kb_Mod_enough 193 = .ok (.lmul, 1) := by decide +kernel
theorem dq_Mod_enough_194 : decode kb_Mod_enough 194 = .ok (.lconst 1, 1) := by decide +kernel
theorem dq_Mod_enough_195 : decode kb_Mod_enough 195 = .ok (.lsub, 1) := by decide +kernel
theorem dq_Mod_enough_196 : decode kb_Mod_enough 196 = .ok (.goto 10, 3) := by decide +kernel
theorem dq_Mod_enough_199 : decode kb_Mod_enough 199 = .ok (.ldc2_w 116, 3) := by decide +kernel
theorem dq_Mod_enough_202 : decode kb_Mod_enough 202 = .ok (.lload_n 3, 1) := by decide +kernel
theorem dq_Mod_enough_203 : decode kb_Mod_enough 203 = .ok (.lmul, 1) := by decide +kernel
theorem dq_Mod_enough_204 : decode kb_Mod_enough 204 = .ok (.lconst 1, 1) := by decide +kernel
theorem dq_Mod_enough_205 : decode kb_Mod_enough 205 = .ok (.lsub, 1) := by decide +kernel
theorem dq_Mod_enough_206 : decode kb_Mod_enough 206 = .ok (.iload 6, 2) := by decide +kernel
theorem dq_Mod_enough_208 : decode kb_Mod_enough 208 = .ok (.ifCond .eq 9, 3) := by decide +kernel
theorem dq_Mod_enough_211 : decode kb_Mod_enough 211 = .ok (.iload_n 2, 1) := by decide +kernel
theorem dq_Mod_enough_212 : decode kb_Mod_enough 212 = .ok (.iconst 2, 1) := by decide +kernel
theorem dq_Mod_enough_213 : decode kb_Mod_enough 213 = .ok (.isub, 1) := by decide +kernel
theorem dq_Mod_enough_214 : decode kb_Mod_enough 214 = .ok (.goto 6, 3) := by decide +kernel
theorem dq_Mod_enough_217 : decode kb_Mod_enough 217 = .ok (.iload_n 2, 1) := by decide +kernel
theorem dq_Mod_enough_218 : decode kb_Mod_enough 218 = .ok (.iconst 1, 1) := by decide +kernel
theorem dq_Mod_enough_219 : decode kb_Mod_enough 219 = .ok (.isub, 1) := by decide +kernel
theorem dq_Mod_enough_220 : decode kb_Mod_enough 220 = .ok (.invokevirtual 118, 3) := by decide +kernel
theorem dq_Mod_enough_223 : decode kb_Mod_enough 223 = .ok (.aload_n 0, 1) := by decide +kernel
theorem dq_Mod_enough_224 : decode kb_Mod_enough 224 = .ok (.lload_n 3, 1) := by decide +kernel
theorem dq_Mod_enough_225 : decode kb_Mod_enough 225 = .ok (.lconst 0, 1) := by decide +kernel
theorem dq_Mod_enough_226 : decode kb_Mod_enough 226 = .ok (.lcmp, 1) := by decide +kernel
theorem dq_Mod_enough_227 : decode kb_Mod_enough 227 = .ok (.ifCond .le 10, 3) := by decide +kernel
theorem dq_Mod_enough_230 : decode kb_Mod_enough 230 = .ok (.aload_n 0, 1) := by decide +kernel
theorem dq_Mod_enough_231 : decode kb_Mod_enough 231 = .ok (.getfield 40, 3) := by decide +kernel
theorem dq_Mod_enough_234 : decode kb_Mod_enough 234 = .ok (.goto 4, 3) := by decide +kernel
theorem dq_Mod_enough_237 : decode kb_Mod_enough 237 = .ok (.iconst 0, 1) := by decide +kernel
theorem dq_Mod_enough_238 : decode kb_Mod_enough 238 = .ok (.putfield 130, 3) := by decide +kernel
theorem dq_Mod_enough_241 : decode kb_Mod_enough 241 = .ok (.aload_n 0, 1) := by decide +kernel
theorem dq_Mod_enough_242 : decode kb_Mod_enough 242 = .ok (.aload_n 0, 1) := by decide +kernel
theorem dq_Mod_enough_243 : decode kb_Mod_enough 243 = .ok (.getfield 40, 3) := by decide +kernel
theorem dq_Mod_enough_246 : decode kb_Mod_enough 246 = .ok (.aload_n 0, 1) := by decide +kernel
theorem dq_Mod_enough_247 : decode kb_Mod_enough 247 = .ok (.getfield 43, 3) := by decide +kernel
theorem dq_Mod_enough_250 : decode kb_Mod_enough 250 = .ok (.isub, 1) := by decide +kernel
theorem dq_Mod_enough_251 : decode kb_Mod_enough 251 = .ok (.putfield 133, 3) := by decide +kernel
theorem dq_Mod_enough_254 : decode kb_Mod_enough 254 = .ok (.iconst 0, 1) := by decide +kernel
theorem dq_Mod_enough_255 : decode kb_Mod_enough 255 = .ok (.istore 7, 2) := by decide +kernel
theorem dq_Mod_enough_257 : decode kb_Mod_enough 257 = .ok (.iload 7, 2) := by decide +kernel
theorem dq_Mod_enough_259 : decode kb_Mod_enough 259 = .ok (.aload_n 0, 1) := by decide +kernel
theorem dq_Mod_enough_260 : decode kb_Mod_enough 260 = .ok (.getfield 130, 3) := by decide +kernel
theorem dq_Mod_enough_263 : decode kb_Mod_enough 263 = .ok (.if_icmp .ge 23, 3) := by decide +kernel
theorem dq_Mod_enough_266 : decode kb_Mod_enough 266 = .ok (.aload_n 0, 1) := by decide +kernel
theorem dq_Mod_enough_267 : decode kb_Mod_enough 267 = .ok (.getfield 22, 3) := by decide +kernel
theorem dq_Mod_enough_270 : decode kb_Mod_enough 270 = .ok (.iload 7, 2) := by decide +kernel
theorem dq_Mod_enough_272 : decode kb_Mod_enough 272 = .ok (.aload_n 0, 1) := by decide +kernel
theorem dq_Mod_enough_273 : decode kb_Mod_enough 273 = .ok (.getfield 13, 3) := by decide +kernel
theorem dq_Mod_enough_276 : decode kb_Mod_enough 276 = .ok (.iload 7, 2) := by decide +kernel
theorem dq_Mod_enough_278 : decode kb_Mod_enough 278 = .ok (.iaload, 1) := by decide +kernel
theorem dq_Mod_enough_279 : decode kb_Mod_enough 279 = .ok (.iastore, 1) := by decide +kernel
theorem dq_Mod_enough_280 : decode kb_Mod_enough 280 = .ok (.iinc 7 1, 3) := by decide +kernel
theorem dq_Mod_enough_283 : decode kb_Mod_enough 283 = .ok (.goto (-26), 3) := by decide +kernel
theorem dq_Mod_enough_286 : decode kb_Mod_enough 286 = .ok (.aload_n 0, 1) := by decide +kernel
theorem dq_Mod_enough_287 : decode kb_Mod_enough 287 = .ok (.getfield 61, 3) := by decide +kernel
theorem dq_Mod_enough_290 : decode kb_Mod_enough 290 = .ok (.istore 7, 2) := by decide +kernel
theorem dq_Mod_enough_292 : decode kb_Mod_enough 292 = .ok (.aload_n 0, 1) := by decide +kernel
theorem dq_Mod_enough_293 : decode kb_Mod_enough 293 = .ok (.getfield 64, 3) := by decide +kernel
theorem dq_Mod_enough_296 : decode kb_Mod_enough 296 = .ok (.istore 8, 2) := by decide +kernel
theorem dq_Mod_enough_298 : decode kb_Mod_enough 298 = .ok (.iconst 0, 1) := by decide +kernel
theorem dq_Mod_enough_299 : decode kb_Mod_enough 299 = .ok (.istore 9, 2) := by decide +kernel
theorem dq_Mod_enough_301 : decode kb_Mod_enough 301 = .ok (.iload 9, 2) := by decide +kernel
theorem dq_Mod_enough_303 : decode kb_Mod_enough 303 = .ok (.iload 7, 2) := by decide +kernel
theorem dq_Mod_enough_305 : decode kb_Mod_enough 305 = .ok (.if_icmp .ge 23, 3) := by decide +kernel
theorem dq_Mod_enough_308 : decode kb_Mod_enough 308 = .ok (.aload_n 0, 1) := by decide +kernel
theorem dq_Mod_enough_309 : decode kb_Mod_enough 309 = .ok (.getfield 19, 3) := by decide +kernel
theorem dq_Mod_enough_312 : decode kb_Mod_enough 312 = .ok (.iload 9, 2) := by decide +kernel
theorem dq_Mod_enough_314 : decode kb_Mod_enough 314 = .ok (.aload_n 0, 1) := by decide +kernel
theorem dq_Mod_enough_315 : decode kb_Mod_enough 315 = .ok (.getfield 9, 3) := by decide +kernel
theorem dq_Mod_enough_318 : decode kb_Mod_enough 318 = .ok (.iload 9, 2) := by decide +kernel
theorem dq_Mod_enough_320 : decode kb_Mod_enough 320 = .ok (.iaload, 1) := by decide +kernel
theorem dq_Mod_enough_321 : decode kb_Mod_enough 321 = .ok (.iastore, 1) := by decide +kernel
theorem dq_Mod_enough_322 : decode kb_Mod_enough 322 = .ok (.iinc 9 1, 3) := by decide +kernel
theorem dq_Mod_enough_325 : decode kb_Mod_enough 325 = .ok (.goto (-24), 3) := by decide +kernel
theorem dq_Mod_enough_328 : decode kb_Mod_enough 328 = .ok (.iconst 0, 1) := by decide +kernel
theorem dq_Mod_enough_329 : decode kb_Mod_enough 329 = .ok (.istore 9, 2) := by decide +kernel
theorem dq_Mod_enough_331 : decode kb_Mod_enough 331 = .ok (.iload 9, 2) := by decide +kernel
theorem dq_Mod_enough_333 : decode kb_Mod_enough 333 = .ok (.iload 7, 2) := by decide +kernel
theorem dq_Mod_enough_335 : decode kb_Mod_enough 335 = .ok (.if_icmp .gt 148, 3) := by decide +kernel
theorem dq_Mod_enough_338 : decode kb_Mod_enough 338 = .ok (.aload_n 0, 1) := by decide +kernel
theorem dq_Mod_enough_339 : decode kb_Mod_enough 339 = .ok (.iload 7, 2) := by decide +kernel
theorem dq_Mod_enough_341 : decode kb_Mod_enough 341 = .ok (.putfield 61, 3) := by decide +kernel
theorem dq_Mod_enough_344 : decode kb_Mod_enough 344 = .ok (.aload_n 0, 1) := by decide +kernel
theorem dq_Mod_enough_345 : decode kb_Mod_enough 345 = .ok (.iload 8, 2) := by decide +kernel
theorem dq_Mod_enough_347 : decode kb_Mod_enough 347 = .ok (.putfield 64, 3) := by decide +kernel
theorem dq_Mod_enough_350 : decode kb_Mod_enough 350 = .ok (.iconst 0, 1) := by decide +kernel
theorem dq_Mod_enough_351 : decode kb_Mod_enough 351 = .ok (.istore 10, 2) := by decide +kernel
theorem dq_Mod_enough_353 : decode kb_Mod_enough 353 = .ok (.iload 10, 2) := by decide +kernel
theorem dq_Mod_enough_355 : decode kb_Mod_enough 355 = .ok (.iload 7, 2) := by decide +kernel
theorem dq_Mod_enough_357 : decode kb_Mod_enough 357 = .ok (.if_icmp .ge 23, 3) := by decide +kernel
theorem dq_Mod_enough_360 : decode kb_Mod_enough 360 = .ok (.aload_n 0, 1) := by decide +kernel
theorem dq_Mod_enough_361 : decode kb_Mod_enough 361 = .ok (.getfield 9, 3) := by decide +kernel
theorem dq_Mod_enough_364 : decode kb_Mod_enough 364 = .ok (.iload 10, 2) := by decide +kernel
theorem dq_Mod_enough_366 : decode kb_Mod_enough 366 = .ok (.aload_n 0, 1) := by decide +kernel
theorem dq_Mod_enough_367 : decode kb_Mod_enough 367 = .ok (.getfield 19, 3) := by decide +kernel
theorem dq_Mod_enough_370 : decode kb_Mod_enough 370 = .ok (.iload 10, 2) := by decide +kernel
theorem dq_Mod_enough_372 : decode kb_Mod_enough 372 = .ok (.iaload, 1) := by decide +kernel
theorem dq_Mod_enough_373 : decode kb_Mod_enough 373 = .ok (.iastore, 1) := by decide +kernel
theorem dq_Mod_enough_374 : decode kb_Mod_enough 374 = .ok (.iinc 10 1, 3) := by decide +kernel
theorem dq_Mod_enough_377 : decode kb_Mod_enough 377 = .ok (.goto (-24), 3) := by decide +kernel
theorem dq_Mod_enough_380 : decode kb_Mod_enough 380 = .ok (.aload_n 0, 1) := by decide +kernel
theorem dq_Mod_enough_381 : decode kb_Mod_enough 381 = .ok (.iload 9, 2) := by decide +kernel
theorem dq_Mod_enough_383 : decode kb_Mod_enough 383 = .ok (.ifCond .le 9, 3) := by decide +kernel
theorem dq_Mod_enough_386 : decode kb_Mod_enough 386 = .ok (.iload 9, 2) := by decide +kernel
theorem dq_Mod_enough_388 : decode kb_Mod_enough 388 = .ok (.i2l, 1) := by decide +kernel
theorem dq_Mod_enough_389 : decode kb_Mod_enough 389 = .ok (.goto 6, 3) := by decide +kernel
theorem dq_Mod_enough_392 : decode kb_Mod_enough 392 = .ok (.ldc2_w 88, 3) := by decide +kernel
theorem dq_Mod_enough_395 : decode kb_Mod_enough 395 = .ok (.invokevirtual 90, 3) := by decide +kernel
theorem dq_Mod_enough_398 : decode kb_Mod_enough 398 = .ok (.lload_n 3, 1) := by decide +kernel
theorem dq_Mod_enough_399 : decode kb_Mod_enough 399 = .ok (.lconst 0, 1) := by decide +kernel
theorem dq_Mod_enough_400 : decode kb_Mod_enough 400 = .ok (.lcmp, 1) := by decide +kernel
theorem dq_Mod_enough_401 : decode kb_Mod_enough 401 = .ok (.ifCond .le 22, 3) := by decide +kernel
theorem dq_Mod_enough_404 : decode kb_Mod_enough 404 = .ok (.aload_n 0, 1) := by decide +kernel
theorem dq_Mod_enough_405 : decode kb_Mod_enough 405 = .ok (.aload_n 0, 1) := by decide +kernel
theorem dq_Mod_enough_406 : decode kb_Mod_enough 406 = .ok (.getfield 22, 3) := by decide +kernel
theorem dq_Mod_enough_409 : decode kb_Mod_enough 409 = .ok (.aload_n 0, 1) := by decide +kernel
theorem dq_Mod_enough_410 : decode kb_Mod_enough 410 = .ok (.getfield 130, 3) := by decide +kernel
theorem dq_Mod_enough_413 : decode kb_Mod_enough 413 = .ok (.aload_n 0, 1) := by decide +kernel
theorem dq_Mod_enough_414 : decode kb_Mod_enough 414 = .ok (.getfield 133, 3) := by decide +kernel
theorem dq_Mod_enough_417 : decode kb_Mod_enough 417 = .ok (.invokevirtual 136, 3) := by decide +kernel
theorem dq_Mod_enough_420 : decode kb_Mod_enough 420 = .ok (.goto 4, 3) := by decide +kernel
theorem dq_Mod_enough_423 : decode kb_Mod_enough 423 = .ok (.iconst 1, 1) := by decide +kernel
theorem dq_Mod_enough_424 : decode kb_Mod_enough 424 = .ok (.istore 10, 2) := by decide +kernel
theorem dq_Mod_enough_426 : decode kb_Mod_enough 426 = .ok (.aload_n 0, 1) := by decide +kernel
theorem dq_Mod_enough_427 : decode kb_Mod_enough 427 = .ok (.aload_n 0, 1) := by decide +kernel
theorem dq_Mod_enough_428 : decode kb_Mod_enough 428 = .ok (.getfield 25, 3) := by decide +kernel
theorem dq_Mod_enough_431 : decode kb_Mod_enough 431 = .ok (.aload_n 0, 1) := by decide +kernel
theorem dq_Mod_enough_432 : decode kb_Mod_enough 432 = .ok (.getfield 122, 3) := by decide +kernel
theorem dq_Mod_enough_435 : decode kb_Mod_enough 435 = .ok (.aload_n 0, 1) := by decide +kernel
theorem dq_Mod_enough_436 : decode kb_Mod_enough 436 = .ok (.getfield 125, 3) := by decide +kernel
theorem dq_Mod_enough_439 : decode kb_Mod_enough 439 = .ok (.invokevirtual 136, 3) := by decide +kernel
theorem dq_Mod_enough_442 : decode kb_Mod_enough 442 = .ok (.istore 11, 2) := by decide +kernel
theorem dq_Mod_enough_444 : decode kb_Mod_enough 444 = .ok (.iload 10, 2) := by decide +kernel
theorem dq_Mod_enough_446 : decode kb_Mod_enough 446 = .ok (.ifCond .gt 13, 3) := by decide +kernel
theorem dq_Mod_enough_449 : decode kb_Mod_enough 449 = .ok (.iload 10, 2) := by decide +kernel
theorem dq_Mod_enough_451 : decode kb_Mod_enough 451 = .ok (.ifCond .ne 26, 3) := by decide +kernel
theorem dq_Mod_enough_454 : decode kb_Mod_enough 454 = .ok (.iload 5, 2) := by decide +kernel
theorem dq_Mod_enough_456 : decode kb_Mod_enough 456 = .ok (.ifCond .eq 21, 3) := by decide +kernel
theorem dq_Mod_enough_459 : decode kb_Mod_enough 459 = .ok (.iload 11, 2) := by decide +kernel
theorem dq_Mod_enough_461 : decode kb_Mod_enough 461 = .ok (.ifCond .lt 13, 3) := by decide +kernel
theorem dq_Mod_enough_464 : decode kb_Mod_enough 464 = .ok (.iload 11, 2) := by decide +kernel
theorem dq_Mod_enough_466 : decode kb_Mod_enough 466 = .ok (.ifCond .ne 11, 3) := by decide +kernel
theorem dq_Mod_enough_469 : decode kb_Mod_enough 469 = .ok (.iload 5, 2) := by decide +kernel
theorem dq_Mod_enough_471 : decode kb_Mod_enough 471 = .ok (.ifCond .eq 6, 3) := by decide +kernel
theorem dq_Mod_enough_474 : decode kb_Mod_enough 474 = .ok (.iload 9, 2) := by decide +kernel
theorem dq_Mod_enough_476 : decode kb_Mod_enough 476 = .ok (.ireturn, 1) := by decide +kernel
theorem dq_Mod_enough_477 : decode kb_Mod_enough 477 = .ok (.iinc 9 1, 3) := by decide +kernel
theorem dq_Mod_enough_480 : decode kb_Mod_enough 480 = .ok (.goto (-149), 3) := by decide +kernel
theorem dq_Mod_enough_483 : decode kb_Mod_enough 483 = .ok (.iload 7, 2) := by decide +kernel
theorem dq_Mod_enough_485 : decode kb_Mod_enough 485 = .ok (.ireturn, 1) := by decide +kernel
theorem dq_Mod_look_0 : decode kb_Mod_look 0 = .ok (.aload_n 0, 1) := by decide +kernel
theorem dq_Mod_look_1 : decode kb_Mod_look 1 = .ok (.iconst 0, 1) := by decide +kernel
theorem dq_Mod_look_2 : decode kb_Mod_look 2 = .ok (.putfield 28, 3) := by decide +kernel
theorem dq_Mod_look_5 : decode kb_Mod_look 5 = .ok (.aload_n 0, 1) := by decide +kernel
theorem dq_Mod_look_6 : decode kb_Mod_look 6 = .ok (.iload_n 1, 1) := by decide +kernel
theorem dq_Mod_look_7 : decode kb_Mod_look 7 = .ok (.i2l, 1) := by decide +kernel
theorem dq_Mod_look_8 : decode kb_Mod_look 8 = .ok (.lconst 0, 1) := by decide +kernel
theorem dq_Mod_look_9 : decode kb_Mod_look 9 = .ok (.aload_n 0, 1) := by decide +kernel
theorem dq_Mod_look_10 : decode kb_Mod_look 10 = .ok (.getfield 61, 3) := by decide +kernel
theorem dq_Mod_look_13 : decode kb_Mod_look 13 = .ok (.iconst 1, 1) := by decide +kernel
theorem dq_Mod_look_14 : decode kb_Mod_look 14 = .ok (.isub, 1) := by decide +kernel
theorem dq_Mod_look_15 : decode kb_Mod_look 15 = .ok (.i2l, 1) := by decide +kernel
theorem dq_Mod_look_16 : decode kb_Mod_look 16 = .ok (.invokestatic 75, 3) := by decide +kernel
theorem dq_Mod_look_19 : decode kb_Mod_look 19 = .ok (.ifCond .ne 7, 3) := by decide +kernel
theorem dq_Mod_look_22 : decode kb_Mod_look 22 = .ok (.iconst 1, 1) := by decide +kernel
theorem dq_Mod_look_23 : decode kb_Mod_look 23 = .ok (.goto 4, 3) := by decide +kernel
theorem dq_Mod_look_26 : decode kb_Mod_look 26 = .ok (.iconst 0, 1) := by decide +kernel
theorem dq_Mod_look_27 : decode kb_Mod_look 27 = .ok (.iconst 1, 1) := by decide +kernel
theorem dq_Mod_look_28 : decode kb_Mod_look 28 = .ok (.invokevirtual 32, 3) := by decide +kernel
theorem dq_Mod_look_31 : decode kb_Mod_look 31 = .ok (.ifCond .eq 7, 3) := by decide +kernel
theorem dq_Mod_look_34 : decode kb_Mod_look 34 = .ok (.iconst 0, 1) := by decide +kernel
theorem dq_Mod_look_35 : decode kb_Mod_look 35 = .ok (.goto 9, 3) := by decide +kernel
theorem dq_Mod_look_38 : decode kb_Mod_look 38 = .ok (.aload_n 0, 1) := by decide +kernel
theorem dq_Mod_look_39 : decode kb_Mod_look 39 = .ok (.getfield 9, 3) := by decide +kernel
theorem dq_Mod_look_42 : decode kb_Mod_look 42 = .ok (.iload_n 1, 1) := by decide +kernel
theorem dq_Mod_look_43 : decode kb_Mod_look 43 = .ok (.iaload, 1) := by decide +kernel
theorem dq_Mod_look_44 : decode kb_Mod_look 44 = .ok (.ireturn, 1) := by decide +kernel
theorem dq_Mod_count_0 : decode kb_Mod_count 0 = .ok (.aload_n 0, 1) := by decide +kernel
theorem dq_Mod_count_1 : decode kb_Mod_count 1 = .ok (.iconst 0, 1) := by decide +kernel
theorem dq_Mod_count_2 : decode kb_Mod_count 2 = .ok (.putfield 28, 3) := by decide +kernel
theorem dq_Mod_count_5 : decode kb_Mod_count 5 = .ok (.aload_n 0, 1) := by decide +kernel
theorem dq_Mod_count_6 : decode kb_Mod_count 6 = .ok (.iload_n 1, 1) := by decide +kernel
theorem dq_Mod_count_7 : decode kb_Mod_count 7 = .ok (.i2l, 1) := by decide +kernel
theorem dq_Mod_count_8 : decode kb_Mod_count 8 = .ok (.lconst 0, 1) := by decide +kernel
theorem dq_Mod_count_9 : decode kb_Mod_count 9 = .ok (.ldc2_w 116, 3) := by decide +kernel
theorem dq_Mod_count_12 : decode kb_Mod_count 12 = .ok (.invokestatic 75, 3) := by decide +kernel
theorem dq_Mod_count_15 : decode kb_Mod_count 15 = .ok (.ifCond .ne 7, 3) := by decide +kernel
theorem dq_Mod_count_18 : decode kb_Mod_count 18 = .ok (.iconst 1, 1) := by decide +kernel
theorem dq_Mod_count_19 : decode kb_Mod_count 19 = .ok (.goto 4, 3) := by decide +kernel
theorem dq_Mod_count_22 : decode kb_Mod_count 22 = .ok (.iconst 0, 1) := by decide +kernel
theorem dq_Mod_count_23 : decode kb_Mod_count 23 = .ok (.iconst 1, 1) := by decide +kernel
theorem dq_Mod_count_24 : decode kb_Mod_count 24 = .ok (.invokevirtual 32, 3) := by decide +kernel
theorem dq_Mod_count_27 : decode kb_Mod_count 27 = .ok (.ifCond .eq 5, 3) := by decide +kernel
theorem dq_Mod_count_30 : decode kb_Mod_count 30 = .ok (.iconst 0, 1) := by decide +kernel
theorem dq_Mod_count_31 : decode kb_Mod_count 31 = .ok (.ireturn, 1) := by decide +kernel
theorem dq_Mod_count_32 : decode kb_Mod_count 32 = .ok (.iload_n 1, 1) := by decide +kernel
theorem dq_Mod_count_33 : decode kb_Mod_count 33 = .ok (.ifCond .ne 10, 3) := by decide +kernel
theorem dq_Mod_count_36 : decode kb_Mod_count 36 = .ok (.aload_n 0, 1) := by decide +kernel
theorem dq_Mod_count_37 : decode kb_Mod_count 37 = .ok (.getfield 61, 3) := by decide +kernel
theorem dq_Mod_count_40 : decode kb_Mod_count 40 = .ok (.goto 27, 3) := by decide +kernel
theorem dq_Mod_count_43 : decode kb_Mod_count 43 = .ok (.iload_n 1, 1) := by decide +kernel
theorem dq_Mod_count_44 : decode kb_Mod_count 44 = .ok (.iconst 1, 1) := by decide +kernel
theorem dq_Mod_count_45 : decode kb_Mod_count 45 = .ok (.if_icmp .ne 10, 3) := by decide +kernel
theorem dq_Mod_count_48 : decode kb_Mod_count 48 = .ok (.aload_n 0, 1) := by decide +kernel
theorem dq_Mod_count_49 : decode kb_Mod_count 49 = .ok (.getfield 64, 3) := by decide +kernel
theorem dq_Mod_count_52 : decode kb_Mod_count 52 = .ok (.goto 15, 3) := by decide +kernel
theorem dq_Mod_count_55 : decode kb_Mod_count 55 = .ok (.aload_n 0, 1) := by decide +kernel
theorem dq_Mod_count_56 : decode kb_Mod_count 56 = .ok (.getfield 54, 3) := by decide +kernel
theorem dq_Mod_count_59 : decode kb_Mod_count 59 = .ok (.ifCond .eq 7, 3) := by decide +kernel
theorem dq_Mod_count_62 : decode kb_Mod_count 62 = .ok (.iconst 1, 1) := by decide +kernel
theorem dq_Mod_count_63 : decode kb_Mod_count 63 = .ok (.goto 4, 3) := by decide +kernel
theorem dq_Mod_count_66 : decode kb_Mod_count 66 = .ok (.iconst 0, 1) := by decide +kernel
theorem dq_Mod_count_67 : decode kb_Mod_count 67 = .ok (.ireturn, 1) := by decide +kernel
end
section
/-! the reference's object; rows shifted -/
abbrev mo (y dg rw bt wz lw hg : Nat) (er : Int) (mi : Bool) (nd : Nat) (pl : Int) (zr : Nat) (bh : Int) (mn : Nat) (fr fo : Int) (ls : Nat) (lp : Int) (hs : Nat) (hq : Int) : Nat × va_E := oc y 4 [vi er, vi (b2 mi), .ref dg, vi (nd : Nat), vi pl, vi (zr : Nat), vi bh, .ref rw, vi (mn : Nat), vi fr, vj fo, .ref bt, .ref wz, .ref lw, .ref hg, vi (ls : Nat), vi lp, vi (hs : Nat), vi hq]
def sk (f : Nat → Nat) (n k : Nat) : Nat → Nat := fun i => if k < i ∧ i ≤ n then f (i - 1) else f i
theorem sk_n (f : Nat → Nat) (n : Nat) : sk f n n = f := by funext i; unfold sk; rw [if_neg (by omega)]
theorem sk_at (f : Nat → Nat) (n k : Nat) : sk f n (k + 1) k = f k := by unfold sk; rw [if_neg (by omega)]
theorem sk_s (f : Nat → Nat) {n k : Nat} (h : k < n) : un (sk f n (k + 1)) (k + 1) (f k) = sk f n k := by
  funext i; unfold un sk
  by_cases e : i = k + 1
  · rw [if_pos e, if_pos (by omega)]; congr 1; omega
  · rw [if_neg e]
    by_cases e2 : k + 1 < i ∧ i ≤ n
    · show (if k + 1 < i ∧ i ≤ n then f (i - 1) else f i) = _
      rw [if_pos e2, if_pos (by omega)]
    · show (if k + 1 < i ∧ i ≤ n then f (i - 1) else f i) = _
      rw [if_neg e2, if_neg (by omega)]
theorem sk_9 {f : Nat → Nat} (h : ∀ i, f i ≤ 9) (n k i : Nat) : sk f n k i ≤ 9 := by unfold sk; split <;> exact h _
theorem sk_sh {f : Nat → Nat} {n c i : Nat} (h : i < n + 1) : un (sk f n 0) 0 c i = sh1 f c i := by
  unfold un sh1
  by_cases e : i = 0
  · rw [if_pos e, if_pos e]
  · rw [if_neg e, if_neg e]; unfold sk; rw [if_pos (by omega)]
def sl1 (f : Nat → Nat) (k : Nat) : Nat → Nat := fun i => if i + 1 < k then f (i + 1) else f i
theorem sl1_1 (f : Nat → Nat) : sl1 f 1 = f := by funext i; unfold sl1; rw [if_neg (by omega)]
theorem sl1_at (f : Nat → Nat) (k : Nat) : sl1 f k k = f k := by unfold sl1; rw [if_neg (by omega)]
theorem sl1_s (f : Nat → Nat) {k : Nat} (h : 0 < k) : un (sl1 f k) (k - 1) (f k) = sl1 f (k + 1) := by
  funext i; unfold un
  by_cases e : i = k - 1
  · rw [if_pos e]; unfold sl1; rw [if_pos (by omega)]; congr 1; omega
  · rw [if_neg e]; unfold sl1
    by_cases e2 : i + 1 < k
    · rw [if_pos e2, if_pos (by omega)]
    · rw [if_neg e2, if_neg (by omega)]
theorem sl1_9 {f : Nat → Nat} (h : ∀ i, f i ≤ 9) (k i : Nat) : sl1 f k i ≤ 9 := by unfold sl1; split <;> exact h _
def cpd (d f : Nat → Nat) (k : Nat) : Nat → Nat := fun i => if i < k then f i else d i
theorem cpd_0 (d f : Nat → Nat) : cpd d f 0 = d := by funext i; unfold cpd; rw [if_neg (by omega)]
theorem cpd_s (d f : Nat → Nat) (k : Nat) : un (cpd d f k) k (f k) = cpd d f (k + 1) := by
  funext i; unfold un
  by_cases e : i = k
  · rw [if_pos e]; unfold cpd; rw [if_pos (by omega), e]
  · rw [if_neg e]; unfold cpd
    by_cases e2 : i < k
    · rw [if_pos e2, if_pos (by omega)]
    · rw [if_neg e2, if_neg (by omega)]
theorem cpd_9 {d f : Nat → Nat} (h : ∀ i, d i ≤ 9) (h2 : ∀ i, f i ≤ 9) (k i : Nat) : cpd d f k i ≤ 9 := by
  unfold cpd; split
  · exact h2 _
  · exact h _
theorem cpd_lt {d f : Nat → Nat} {k i : Nat} (h : i < k) : cpd d f k i = f i := if_pos h
end
section
theorem c_Mod_thrown (cI cJ : ClassId) (y dg rw bt wz lw hg : Nat) (er : Int) (mi : Bool) (nd : Nat) (pl : Int) (zr : Nat) (bh : Int) (mn : Nat) (fr fo : Int) (ls : Nat) (lp : Int) (hs : Nat) (hq : Int) : MtI cI cJ ky_Mod_thrown kb_Mod_thrown 1 .int rm_Mod_thrown Xt [.ref y] [oc y 4 [vi er, vi (b2 mi), .ref dg, vi ((nd : Nat) : Int), vi pl, vi ((zr : Nat) : Int), vi bh, .ref rw, vi ((mn : Nat) : Int), vi fr, vj fo, .ref bt, .ref wz, .ref lw, .ref hg, vi ((ls : Nat) : Int), vi lp, vi ((hs : Nat) : Int), vi hq]] (fun z u => z = er ∧ u = [mo y dg rw bt wz lw hg er mi nd pl zr bh mn fr fo ls lp hs hq]) := by
  refine MtI_in (by decide) (Nat.le_of_ble_eq_true rfl) (fun K C hR hX hN => ?_)
  show V K 1 [oc y 4 [vi er, vi (b2 mi), .ref dg, vi ((nd : Nat) : Int), vi pl, vi ((zr : Nat) : Int), vi bh, .ref rw, vi ((mn : Nat) : Int), vi fr, vj fo, .ref bt, .ref wz, .ref lw, .ref hg, vi ((ls : Nat) : Int), vi lp, vi ((hs : Nat) : Int), vi hq]] 0 0 0 [(0, .ref y)] []
  refine qv_aload_n C rfl dq_Mod_thrown_0 ?_
  refine qv_get C fl_Mod_28 0 rfl rfl dq_Mod_thrown_1 ?_
  refine qv_iret C hR ?_ dq_Mod_thrown_4 (by decide) (by decide)
  exact ⟨rfl, rfl⟩

theorem c_Mod_nothing (cI cJ : ClassId) (y dg rw bt wz lw hg : Nat) (er : Int) (mi : Bool) (nd : Nat) (pl : Int) (zr : Nat) (bh : Int) (mn : Nat) (fr fo : Int) (ls : Nat) (lp : Int) (hs : Nat) (hq : Int) : MtV cI cJ ky_Mod_nothing kb_Mod_nothing 1 rm_Mod_nothing Xt [.ref y] [oc y 4 [vi er, vi (b2 mi), .ref dg, vi ((nd : Nat) : Int), vi pl, vi ((zr : Nat) : Int), vi bh, .ref rw, vi ((mn : Nat) : Int), vi fr, vj fo, .ref bt, .ref wz, .ref lw, .ref hg, vi ((ls : Nat) : Int), vi lp, vi ((hs : Nat) : Int), vi hq]] (fun u => u = [mo y dg rw bt wz lw hg er mi 0 0 zr bh mn fr fo ls lp hs hq]) := by
  refine MtV_in (by decide) (Nat.le_of_ble_eq_true rfl) (fun K C hR hX hN => ?_)
  show V K 1 [oc y 4 [vi er, vi (b2 mi), .ref dg, vi ((nd : Nat) : Int), vi pl, vi ((zr : Nat) : Int), vi bh, .ref rw, vi ((mn : Nat) : Int), vi fr, vj fo, .ref bt, .ref wz, .ref lw, .ref hg, vi ((ls : Nat) : Int), vi lp, vi ((hs : Nat) : Int), vi hq]] 0 0 0 [(0, .ref y)] []
  refine qv_aload_n C rfl dq_Mod_nothing_0 ?_
  refine qv_iconst C dq_Mod_nothing_1 ?_
  refine qv_put C (ws' := [oc y 4 [vi er, vi (b2 mi), .ref dg, vi 0, vi pl, vi ((zr : Nat) : Int), vi bh, .ref rw, vi ((mn : Nat) : Int), vi fr, vj fo, .ref bt, .ref wz, .ref lw, .ref hg, vi ((ls : Nat) : Int), vi lp, vi ((hs : Nat) : Int), vi hq]]) fl_Mod_61 fs_4_3 0 rfl rfl rfl (Nat.le_of_ble_eq_true rfl) rfl dq_Mod_nothing_2 ?_
  refine qv_aload_n C rfl dq_Mod_nothing_5 ?_
  refine qv_iconst C dq_Mod_nothing_6 ?_
  refine qv_put C (ws' := [oc y 4 [vi er, vi (b2 mi), .ref dg, vi 0, vi 0, vi ((zr : Nat) : Int), vi bh, .ref rw, vi ((mn : Nat) : Int), vi fr, vj fo, .ref bt, .ref wz, .ref lw, .ref hg, vi ((ls : Nat) : Int), vi lp, vi ((hs : Nat) : Int), vi hq]]) fl_Mod_64 fs_4_4 0 rfl rfl rfl (Nat.le_of_ble_eq_true rfl) rfl dq_Mod_nothing_7 ?_
  refine qv_vret C hR ?_ dq_Mod_nothing_10 (by decide) (by decide)
  rfl

theorem c_Mod_in (cI cJ : ClassId) (v a b : Int) (hv : rj v) (ha : rj a) (hb : rj b) : MtI cI cJ ky_Mod_in kb_Mod_in 6 .boolean rm_Mod_in Xt [vj v, vj a, vj b] [] (fun z u => z = b2 (decide (a ≤ v ∧ v ≤ b)) ∧ u = []) := by
  refine MtI_in (by decide) (Nat.le_of_ble_eq_true rfl) (fun K C hR hX hN => ?_)
  show V K 6 [] 0 0 0 [(0, vj v), (2, vj a), (4, vj b)] []
  refine qv_lload_n C rfl dq_Mod_in_0 ?_
  refine qv_lload_n C rfl dq_Mod_in_1 ?_
  refine qv_lclt C (by omega) (by omega) dq_Mod_in_2 (tgt := 17) (by decide) dq_Mod_in_3 (fun h2 => ?_) (fun h2 => ?_)
  · skip
    refine qv_iconst C dq_Mod_in_17 ?_
    refine qv_zret (b := false) C hR ?_ dq_Mod_in_18 (by decide) (by decide)
    refine ⟨congrArg b2 ?_, rfl⟩
    symm
    exact decide_eq_false (by omega)
  · skip
    refine qv_lload_n C rfl dq_Mod_in_6 ?_
    refine qv_lload C rfl dq_Mod_in_7 ?_
    refine qv_lcgt C (by omega) (by omega) dq_Mod_in_9 (tgt := 17) (by decide) dq_Mod_in_10 (fun h9 => ?_) (fun h9 => ?_)
    · skip
      refine qv_iconst C dq_Mod_in_17 ?_
      refine qv_zret (b := false) C hR ?_ dq_Mod_in_18 (by decide) (by decide)
      refine ⟨congrArg b2 ?_, rfl⟩
      symm
      exact decide_eq_false (by omega)
    · skip
      refine qv_iconst C dq_Mod_in_13 ?_
      refine qv_goto C (tgt := 18) (by decide) dq_Mod_in_14 ?_
      refine qv_zret (b := true) C hR ?_ dq_Mod_in_18 (by decide) (by decide)
      refine ⟨congrArg b2 ?_, rfl⟩
      symm
      exact decide_eq_true (by omega)

theorem c_Mod_fails (cI cJ : ClassId) (y dg rw bt wz lw hg : Nat) (mi : Bool) (nd : Nat) (pl : Int) (zr : Nat) (bh : Int) (mn : Nat) (fr fo : Int) (ls : Nat) (lp : Int) (hs : Nat) (hq : Int) (is : Bool) (code : Int) (hc : 0 < code ∧ code ≤ 2) : MtI cI cJ ky_Mod_fails kb_Mod_fails 3 .boolean rm_Mod_fails Xt [.ref y, vi (b2 is), vi code] [oc y 4 [vi 0, vi (b2 mi), .ref dg, vi ((nd : Nat) : Int), vi pl, vi ((zr : Nat) : Int), vi bh, .ref rw, vi ((mn : Nat) : Int), vi fr, vj fo, .ref bt, .ref wz, .ref lw, .ref hg, vi ((ls : Nat) : Int), vi lp, vi ((hs : Nat) : Int), vi hq]] (fun z u => z = b2 is ∧ u = [mo y dg rw bt wz lw hg (if is = true then code else 0) mi nd pl zr bh mn fr fo ls lp hs hq]) := by
  refine MtI_in (by decide) (Nat.le_of_ble_eq_true rfl) (fun K C hR hX hN => ?_)
  show V K 3 [oc y 4 [vi 0, vi (b2 mi), .ref dg, vi ((nd : Nat) : Int), vi pl, vi ((zr : Nat) : Int), vi bh, .ref rw, vi ((mn : Nat) : Int), vi fr, vj fo, .ref bt, .ref wz, .ref lw, .ref hg, vi ((ls : Nat) : Int), vi lp, vi ((hs : Nat) : Int), vi hq]] 0 0 0 [(0, .ref y), (1, vi (b2 is)), (2, vi code)] []
  refine qv_iload_n C rfl dq_Mod_fails_0 ?_
  refine qv_ifeq C (rb_b2 is) (tgt := 16) (by decide) dq_Mod_fails_1 (fun h1 => ?_) (fun h1 => ?_)
  · skip
    have e1 := b2_f h1
    refine qv_aload_n C rfl dq_Mod_fails_16 ?_
    refine qv_get C fl_Mod_28 0 rfl rfl dq_Mod_fails_17 ?_
    refine qv_ifeq C (by omega) (tgt := 27) (by decide) dq_Mod_fails_20 (fun h20 => ?_) (fun h20 => ?_)
    · skip
      refine qv_iconst C dq_Mod_fails_27 ?_
      refine qv_zret (b := false) C hR ?_ dq_Mod_fails_28 (by decide) (by decide)
      rw [e1]
      exact ⟨rfl, rfl⟩
    · exfalso; omega
  · skip
    have e1 := b2_t h1
    refine qv_aload_n C rfl dq_Mod_fails_4 ?_
    refine qv_get C fl_Mod_28 0 rfl rfl dq_Mod_fails_5 ?_
    refine qv_ifne C (by omega) (tgt := 16) (by decide) dq_Mod_fails_8 (fun h8 => ?_) (fun h8 => ?_)
    · exfalso; omega
    · skip
      refine qv_aload_n C rfl dq_Mod_fails_11 ?_
      refine qv_iload_n C rfl dq_Mod_fails_12 ?_
      refine qv_put C (ws' := [oc y 4 [vi code, vi (b2 mi), .ref dg, vi ((nd : Nat) : Int), vi pl, vi ((zr : Nat) : Int), vi bh, .ref rw, vi ((mn : Nat) : Int), vi fr, vj fo, .ref bt, .ref wz, .ref lw, .ref hg, vi ((ls : Nat) : Int), vi lp, vi ((hs : Nat) : Int), vi hq]]) fl_Mod_28 fs_4_0 0 rfl rfl rfl (Nat.le_of_ble_eq_true rfl) rfl dq_Mod_fails_13 ?_
      refine qv_aload_n C rfl dq_Mod_fails_16 ?_
      refine qv_get C fl_Mod_28 0 rfl rfl dq_Mod_fails_17 ?_
      refine qv_ifeq C (by omega) (tgt := 27) (by decide) dq_Mod_fails_20 (fun h20 => ?_) (fun h20 => ?_)
      · skip
        refine qv_iconst C dq_Mod_fails_27 ?_
        refine qv_zret (b := false) C hR ?_ dq_Mod_fails_28 (by decide) (by decide)
        exfalso; omega
      · skip
        refine qv_iconst C dq_Mod_fails_23 ?_
        refine qv_goto C (tgt := 28) (by decide) dq_Mod_fails_24 ?_
        refine qv_zret (b := true) C hR ?_ dq_Mod_fails_28 (by decide) (by decide)
        rw [e1]
        exact ⟨rfl, rfl⟩

theorem c_Mod_twice (cI cJ : ClassId) (y dg rw bt wz lw hg : Nat) (er : Int) (mi : Bool) (nd : Nat) (pl : Int) (zr : Nat) (bh : Int) (mn : Nat) (fr fo : Int) (ls : Nat) (lp : Int) (hs : Nat) (hq : Int) (f : Nat → Nat) (hf : ∀ i, f i ≤ 9) (hm : mn < 1200) : MtV cI cJ ky_Mod_twice kb_Mod_twice 4 rm_Mod_twice Xt [.ref y] [oc y 4 [vi er, vi (b2 mi), .ref dg, vi ((nd : Nat) : Int), vi pl, vi ((zr : Nat) : Int), vi bh, .ref rw, vi ((mn : Nat) : Int), vi fr, vj fo, .ref bt, .ref wz, .ref lw, .ref hg, vi ((ls : Nat) : Int), vi lp, vi ((hs : Nat) : Int), vi hq], ai cI rw 1200 f] (fun u => ∃ (f2 : Nat → Nat) (n2 : Nat), u = [mo y dg rw bt wz lw hg er mi nd pl zr bh n2 fr fo ls lp hs hq, ai cI rw 1200 f2] ∧ Tw f mn f2 n2) := by
  refine MtV_in (by decide) (Nat.le_of_ble_eq_true rfl) (fun K C hR hX hN => ?_)
  show V K 4 [oc y 4 [vi er, vi (b2 mi), .ref dg, vi ((nd : Nat) : Int), vi pl, vi ((zr : Nat) : Int), vi bh, .ref rw, vi ((mn : Nat) : Int), vi fr, vj fo, .ref bt, .ref wz, .ref lw, .ref hg, vi ((ls : Nat) : Int), vi lp, vi ((hs : Nat) : Int), vi hq], ai cI rw 1200 f] 0 0 0 [(0, .ref y)] []
  have shf : ∀ (f2 : Nat → Nat) (c : Nat), TI f f2 mn 0 c → 0 < c → ∀ k, k ≤ mn → V K 4 [oc y 4 [vi er, vi (b2 mi), .ref dg, vi ((nd : Nat) : Int), vi pl, vi ((zr : Nat) : Int), vi bh, .ref rw, vi ((mn : Nat) : Int), vi fr, vj fo, .ref bt, .ref wz, .ref lw, .ref hg, vi ((ls : Nat) : Int), vi lp, vi ((hs : Nat) : Int), vi hq], ai cI rw 1200 (sk f2 mn k)] 0 0 54 [(0, .ref y), (1, vi ((c : Nat) : Int)), (2, vi ((k : Nat) : Int))] [] := by
    intro f2 c hT hc k
    have hc2 := hT.2.2.2.1
    induction k with
    | zero =>
      intro hk
      refine qv_iload_n C rfl dq_Mod_twice_54 ?_
      refine qv_ifle C (by omega) (tgt := 78) (by decide) dq_Mod_twice_55 (fun h55 => ?_) (fun h55 => ?_)
      · skip
        refine qv_aload_n C rfl dq_Mod_twice_78 ?_
        refine qv_get C fl_Mod_13 0 rfl rfl dq_Mod_twice_79 ?_
        refine qv_iconst C dq_Mod_twice_82 ?_
        refine qv_iload_n C rfl dq_Mod_twice_83 ?_
        refine qv_iast C (ws' := [oc y 4 [vi er, vi (b2 mi), .ref dg, vi ((nd : Nat) : Int), vi pl, vi ((zr : Nat) : Int), vi bh, .ref rw, vi ((mn : Nat) : Int), vi fr, vj fo, .ref bt, .ref wz, .ref lw, .ref hg, vi ((ls : Nat) : Int), vi lp, vi ((hs : Nat) : Int), vi hq], ai cI rw 1200 (un (sk f2 mn 0) 0 c)]) 1 0 c rfl (by omega) (by omega) (by omega) (by omega) rfl dq_Mod_twice_84 ?_
        refine qv_aload_n C rfl dq_Mod_twice_85 ?_
        refine qv_dup C rfl dq_Mod_twice_86 ?_
        refine qv_get C fl_Mod_40 0 rfl rfl dq_Mod_twice_87 ?_
        refine qv_iconst C dq_Mod_twice_90 ?_
        refine qv_iadd C (r := (((mn + 1) : Nat) : Int)) (by omega) dq_Mod_twice_91 ?_
        refine qv_put C (ws' := [oc y 4 [vi er, vi (b2 mi), .ref dg, vi ((nd : Nat) : Int), vi pl, vi ((zr : Nat) : Int), vi bh, .ref rw, vi (((mn + 1) : Nat) : Int), vi fr, vj fo, .ref bt, .ref wz, .ref lw, .ref hg, vi ((ls : Nat) : Int), vi lp, vi ((hs : Nat) : Int), vi hq], ai cI rw 1200 (un (sk f2 mn 0) 0 c)]) fl_Mod_40 fs_4_8 0 rfl rfl rfl (Nat.le_of_ble_eq_true rfl) rfl dq_Mod_twice_92 ?_
        refine qv_vret C hR ?_ dq_Mod_twice_95 (by decide) (by decide)
        exact ⟨un (sk f2 mn 0) 0 c, mn + 1, rfl, Tw_b hT hc (un_le (sk_9 hT.1 mn 0) (by omega)) (fun i hi => sk_sh hi)⟩
      · exfalso; omega
    | succ k ih =>
      intro hk
      refine qv_iload_n C rfl dq_Mod_twice_54 ?_
      refine qv_ifle C (by omega) (tgt := 78) (by decide) dq_Mod_twice_55 (fun h55 => ?_) (fun h55 => ?_)
      · exfalso; omega
      · skip
        refine qv_aload_n C rfl dq_Mod_twice_58 ?_
        refine qv_get C fl_Mod_13 0 rfl rfl dq_Mod_twice_59 ?_
        refine qv_iload_n C rfl dq_Mod_twice_62 ?_
        refine qv_aload_n C rfl dq_Mod_twice_63 ?_
        refine qv_get C fl_Mod_13 0 rfl rfl dq_Mod_twice_64 ?_
        refine qv_iload_n C rfl dq_Mod_twice_67 ?_
        refine qv_iconst C dq_Mod_twice_68 ?_
        refine qv_isub C (r := ((k : Nat) : Int)) (by omega) dq_Mod_twice_69 ?_
        refine qv_iald C 1 k rfl (by omega) (by omega) (by omega) dq_Mod_twice_70 ?_
        refine qv_ti (r := ((f2 k : Nat) : Int)) (by rw [sk_at]) ?_
        refine qv_iast C (ws' := [oc y 4 [vi er, vi (b2 mi), .ref dg, vi ((nd : Nat) : Int), vi pl, vi ((zr : Nat) : Int), vi bh, .ref rw, vi ((mn : Nat) : Int), vi fr, vj fo, .ref bt, .ref wz, .ref lw, .ref hg, vi ((ls : Nat) : Int), vi lp, vi ((hs : Nat) : Int), vi hq], ai cI rw 1200 (un (sk f2 mn (k + 1)) (k + 1) (f2 k))]) 1 (k + 1) (f2 k) rfl (by omega) (by omega) (by omega) (by omega) rfl dq_Mod_twice_71 ?_
        refine qv_iinc C (j := 2) (lv' := [(2, vi ((k : Nat) : Int)), (0, .ref y), (1, vi ((c : Nat) : Int))]) (by omega) rfl (by decide) rfl dq_Mod_twice_72 ?_
        refine qv_goto C (tgt := 54) (by decide) dq_Mod_twice_75 ?_
        refine qv_lv [1, 2, 0] (lv' := [(0, .ref y), (1, vi ((c : Nat) : Int)), (2, vi ((k : Nat) : Int))]) rfl ?_
        rw [sk_s f2 (by omega)]
        exact ih (by omega)
  have loop : ∀ k (f2 : Nat → Nat) (c : Nat), TI f f2 mn k c → V K 4 [oc y 4 [vi er, vi (b2 mi), .ref dg, vi ((nd : Nat) : Int), vi pl, vi ((zr : Nat) : Int), vi bh, .ref rw, vi ((mn : Nat) : Int), vi fr, vj fo, .ref bt, .ref wz, .ref lw, .ref hg, vi ((ls : Nat) : Int), vi lp, vi ((hs : Nat) : Int), vi hq], ai cI rw 1200 f2] 0 0 9 [(0, .ref y), (1, vi ((c : Nat) : Int)), (2, vi (((k : Nat) : Int) - 1))] [] := by
    intro k
    induction k with
    | zero =>
      intro f2 c hT
      have hc2 := hT.2.2.2.1
      refine qv_iload_n C rfl dq_Mod_twice_9 ?_
      refine qv_iflt C (by omega) (tgt := 45) (by decide) dq_Mod_twice_10 (fun h10 => ?_) (fun h10 => ?_)
      · skip
        refine qv_iload_n C rfl dq_Mod_twice_45 ?_
        refine qv_ifle C (by omega) (tgt := 95) (by decide) dq_Mod_twice_46 (fun h46 => ?_) (fun h46 => ?_)
        · skip
          refine qv_vret C hR ?_ dq_Mod_twice_95 (by decide) (by decide)
          have ec : c = 0 := by omega
          subst ec
          exact ⟨f2, mn, rfl, Tw_a hT⟩
        · skip
          refine qv_aload_n C rfl dq_Mod_twice_49 ?_
          refine qv_get C fl_Mod_40 0 rfl rfl dq_Mod_twice_50 ?_
          refine qv_istore_n C (lv' := [(2, vi ((mn : Nat) : Int)), (0, .ref y), (1, vi ((c : Nat) : Int))]) (by decide) rfl dq_Mod_twice_53 ?_
          refine qv_lv [1, 2, 0] (lv' := [(0, .ref y), (1, vi ((c : Nat) : Int)), (2, vi ((mn : Nat) : Int))]) rfl ?_
          have s0 := shf f2 c hT (by omega) mn (Nat.le_refl _)
          rw [sk_n] at s0
          exact s0
      · exfalso; omega
    | succ k ih =>
      intro f2 c hT
      have hc2 := hT.2.2.2.1
      have hk := hT.2.2.1
      have h9 := hT.1 k
      have et : (((k + 1 : Nat) : Int) - 1) = ((k : Nat) : Int) := by omega
      rw [et]
      refine qv_iload_n C rfl dq_Mod_twice_9 ?_
      refine qv_iflt C (by omega) (tgt := 45) (by decide) dq_Mod_twice_10 (fun h10 => ?_) (fun h10 => ?_)
      · exfalso; omega
      · skip
        refine qv_iconst C dq_Mod_twice_13 ?_
        refine qv_aload_n C rfl dq_Mod_twice_14 ?_
        refine qv_get C fl_Mod_13 0 rfl rfl dq_Mod_twice_15 ?_
        refine qv_iload_n C rfl dq_Mod_twice_18 ?_
        refine qv_iald C 1 k rfl (by omega) (by omega) (by omega) dq_Mod_twice_19 ?_
        refine qv_imul C (r := (((2 * f2 k) : Nat) : Int)) (by omega) dq_Mod_twice_20 ?_
        refine qv_iload_n C rfl dq_Mod_twice_21 ?_
        refine qv_iadd C (r := (((2 * f2 k + c) : Nat) : Int)) (by omega) dq_Mod_twice_22 ?_
        refine qv_istore_n C (lv' := [(3, vi (((2 * f2 k + c) : Nat) : Int)), (0, .ref y), (1, vi ((c : Nat) : Int)), (2, vi ((k : Nat) : Int))]) (by decide) rfl dq_Mod_twice_23 ?_
        refine qv_aload_n C rfl dq_Mod_twice_24 ?_
        refine qv_get C fl_Mod_13 0 rfl rfl dq_Mod_twice_25 ?_
        refine qv_iload_n C rfl dq_Mod_twice_28 ?_
        refine qv_iload_n C rfl dq_Mod_twice_29 ?_
        refine qv_bipush C (by decide) dq_Mod_twice_30 ?_
        refine qv_irem C (r := ((((2 * f2 k + c) % 10) : Nat) : Int)) (by omega) (by omega) (by omega) (by omega) (by omega) dq_Mod_twice_32 ?_
        refine qv_iast C (ws' := [oc y 4 [vi er, vi (b2 mi), .ref dg, vi ((nd : Nat) : Int), vi pl, vi ((zr : Nat) : Int), vi bh, .ref rw, vi ((mn : Nat) : Int), vi fr, vj fo, .ref bt, .ref wz, .ref lw, .ref hg, vi ((ls : Nat) : Int), vi lp, vi ((hs : Nat) : Int), vi hq], ai cI rw 1200 (un f2 k ((2 * f2 k + c) % 10))]) 1 k ((2 * f2 k + c) % 10) rfl (by omega) (by omega) (by omega) (by omega) rfl dq_Mod_twice_33 ?_
        refine qv_iload_n C rfl dq_Mod_twice_34 ?_
        refine qv_bipush C (by decide) dq_Mod_twice_35 ?_
        refine qv_idiv C (r := ((((2 * f2 k + c) / 10) : Nat) : Int)) (by omega) (by omega) (by omega) (by omega) (by omega) dq_Mod_twice_37 ?_
        refine qv_istore_n C (lv' := [(1, vi ((((2 * f2 k + c) / 10) : Nat) : Int)), (3, vi (((2 * f2 k + c) : Nat) : Int)), (0, .ref y), (2, vi ((k : Nat) : Int))]) (by decide) rfl dq_Mod_twice_38 ?_
        refine qv_iinc C (j := 3) (lv' := [(2, vi (((k : Nat) : Int) - 1)), (1, vi ((((2 * f2 k + c) / 10) : Nat) : Int)), (3, vi (((2 * f2 k + c) : Nat) : Int)), (0, .ref y)]) (by omega) rfl (by decide) rfl dq_Mod_twice_39 ?_
        refine qv_goto C (tgt := 9) (by decide) dq_Mod_twice_42 ?_
        refine qv_lv [3, 1, 0] (lv' := [(0, .ref y), (1, vi ((((2 * f2 k + c) / 10) : Nat) : Int)), (2, vi (((k : Nat) : Int) - 1))]) rfl ?_
        exact ih _ _ (TI_s hT)
  refine qv_iconst C dq_Mod_twice_0 ?_
  refine qv_istore_n C (lv' := [(1, vi 0), (0, .ref y)]) (by decide) rfl dq_Mod_twice_1 ?_
  refine qv_aload_n C rfl dq_Mod_twice_2 ?_
  refine qv_get C fl_Mod_40 0 rfl rfl dq_Mod_twice_3 ?_
  refine qv_iconst C dq_Mod_twice_6 ?_
  refine qv_isub C (r := (((mn : Nat) : Int) - 1)) rfl dq_Mod_twice_7 ?_
  refine qv_istore_n C (lv' := [(2, vi (((mn : Nat) : Int) - 1)), (1, vi 0), (0, .ref y)]) (by decide) rfl dq_Mod_twice_8 ?_
  refine qv_lv [2, 1, 0] (lv' := [(0, .ref y), (1, vi 0), (2, vi (((mn : Nat) : Int) - 1))]) rfl ?_
  exact loop mn f 0 (TI_0 hf)

theorem c_Mod_half (cI cJ : ClassId) (y dg rw bt wz lw hg : Nat) (er : Int) (mi : Bool) (nd : Nat) (pl : Int) (zr : Nat) (bh : Int) (mn : Nat) (fr fo : Int) (ls : Nat) (lp : Int) (hs : Nat) (hq : Int) (f : Nat → Nat) (hf : ∀ i, f i ≤ 9) (hm : mn < 1200) (hm0 : 0 < mn) (h0 : f 0 ≠ 0) : MtV cI cJ ky_Mod_half kb_Mod_half 4 rm_Mod_half Xt [.ref y] [oc y 4 [vi er, vi (b2 mi), .ref dg, vi ((nd : Nat) : Int), vi pl, vi ((zr : Nat) : Int), vi bh, .ref rw, vi ((mn : Nat) : Int), vi fr, vj fo, .ref bt, .ref wz, .ref lw, .ref hg, vi ((ls : Nat) : Int), vi lp, vi ((hs : Nat) : Int), vi hq], ai cI rw 1200 f] (fun u => ∃ (f2 : Nat → Nat) (n2 x : Nat), u = [mo y dg rw bt wz lw hg er mi nd pl zr bh n2 (fr + (x : Int)) fo ls lp hs hq, ai cI rw 1200 f2] ∧ Hf f mn f2 n2 x) := by
  refine MtV_in (by decide) (Nat.le_of_ble_eq_true rfl) (fun K C hR hX hN => ?_)
  show V K 4 [oc y 4 [vi er, vi (b2 mi), .ref dg, vi ((nd : Nat) : Int), vi pl, vi ((zr : Nat) : Int), vi bh, .ref rw, vi ((mn : Nat) : Int), vi fr, vj fo, .ref bt, .ref wz, .ref lw, .ref hg, vi ((ls : Nat) : Int), vi lp, vi ((hs : Nat) : Int), vi hq], ai cI rw 1200 f] 0 0 0 [(0, .ref y)] []
  have aft : ∀ (g : Nat → Nat) (m x : Nat), (∀ i, g i ≤ 9) → x ≤ 1 → m = mn + x → dv 10 g m * 2 = dv 10 f mn * 10 ^ x → V K 4 [oc y 4 [vi er, vi (b2 mi), .ref dg, vi ((nd : Nat) : Int), vi pl, vi ((zr : Nat) : Int), vi bh, .ref rw, vi ((m : Nat) : Int), vi (fr + (x : Int)), vj fo, .ref bt, .ref wz, .ref lw, .ref hg, vi ((ls : Nat) : Int), vi lp, vi ((hs : Nat) : Int), vi hq], ai cI rw 1200 g] 0 0 74 [(0, .ref y)] [] := by
    intro g m x hgn hx hmx hv
    have hg0 := hgn 0
    have shl : g 0 = 0 → ∀ c k, k + c = m → 0 < k → V K 4 [oc y 4 [vi er, vi (b2 mi), .ref dg, vi ((nd : Nat) : Int), vi pl, vi ((zr : Nat) : Int), vi bh, .ref rw, vi ((m : Nat) : Int), vi (fr + (x : Int)), vj fo, .ref bt, .ref wz, .ref lw, .ref hg, vi ((ls : Nat) : Int), vi lp, vi ((hs : Nat) : Int), vi hq], ai cI rw 1200 (sl1 g k)] 0 0 85 [(0, .ref y), (2, vi ((k : Nat) : Int))] [] := by
      intro hz c
      induction c with
      | zero =>
        intro k hk hk0
        have ek : k = m := by omega
        subst ek
        refine qv_iload_n C rfl dq_Mod_half_85 ?_
        refine qv_aload_n C rfl dq_Mod_half_86 ?_
        refine qv_get C fl_Mod_40 0 rfl rfl dq_Mod_half_87 ?_
        refine qv_icge C (by omega) (by omega) (tgt := 113) (by decide) dq_Mod_half_90 (fun h90 => ?_) (fun h90 => ?_)
        · skip
          refine qv_aload_n C rfl dq_Mod_half_113 ?_
          refine qv_dup C rfl dq_Mod_half_114 ?_
          refine qv_get C fl_Mod_40 0 rfl rfl dq_Mod_half_115 ?_
          refine qv_iconst C dq_Mod_half_118 ?_
          refine qv_isub C (r := (((k - 1) : Nat) : Int)) (by omega) dq_Mod_half_119 ?_
          refine qv_put C (ws' := [oc y 4 [vi er, vi (b2 mi), .ref dg, vi ((nd : Nat) : Int), vi pl, vi ((zr : Nat) : Int), vi bh, .ref rw, vi (((k - 1) : Nat) : Int), vi (fr + (x : Int)), vj fo, .ref bt, .ref wz, .ref lw, .ref hg, vi ((ls : Nat) : Int), vi lp, vi ((hs : Nat) : Int), vi hq], ai cI rw 1200 (sl1 g k)]) fl_Mod_40 fs_4_8 0 rfl rfl rfl (Nat.le_of_ble_eq_true rfl) rfl dq_Mod_half_120 ?_
          refine qv_vret C hR ?_ dq_Mod_half_123 (by decide) (by decide)
          exact ⟨sl1 g k, k - 1, x, rfl, Hf_b (fun _ => h0) hgn hx hmx hv hz (by omega) (sl1_9 hgn k) (fun i hi => if_pos (by omega))⟩
        · exfalso; omega
      | succ c ih =>
        intro k hk hk0
        refine qv_iload_n C rfl dq_Mod_half_85 ?_
        refine qv_aload_n C rfl dq_Mod_half_86 ?_
        refine qv_get C fl_Mod_40 0 rfl rfl dq_Mod_half_87 ?_
        refine qv_icge C (by omega) (by omega) (tgt := 113) (by decide) dq_Mod_half_90 (fun h90 => ?_) (fun h90 => ?_)
        · exfalso; omega
        · skip
          refine qv_aload_n C rfl dq_Mod_half_93 ?_
          refine qv_get C fl_Mod_13 0 rfl rfl dq_Mod_half_94 ?_
          refine qv_iload_n C rfl dq_Mod_half_97 ?_
          refine qv_iconst C dq_Mod_half_98 ?_
          refine qv_isub C (r := (((k - 1) : Nat) : Int)) (by omega) dq_Mod_half_99 ?_
          refine qv_aload_n C rfl dq_Mod_half_100 ?_
          refine qv_get C fl_Mod_13 0 rfl rfl dq_Mod_half_101 ?_
          refine qv_iload_n C rfl dq_Mod_half_104 ?_
          refine qv_iald C 1 k rfl (by omega) (by omega) (by omega) dq_Mod_half_105 ?_
          refine qv_ti (r := ((g k : Nat) : Int)) (by rw [sl1_at]) ?_
          refine qv_iast C (ws' := [oc y 4 [vi er, vi (b2 mi), .ref dg, vi ((nd : Nat) : Int), vi pl, vi ((zr : Nat) : Int), vi bh, .ref rw, vi ((m : Nat) : Int), vi (fr + (x : Int)), vj fo, .ref bt, .ref wz, .ref lw, .ref hg, vi ((ls : Nat) : Int), vi lp, vi ((hs : Nat) : Int), vi hq], ai cI rw 1200 (un (sl1 g k) (k - 1) (g k))]) 1 (k - 1) (g k) rfl (by omega) (by omega) (by omega) (by omega) rfl dq_Mod_half_106 ?_
          refine qv_iinc C (j := 1) (lv' := [(2, vi (((k + 1) : Nat) : Int)), (0, .ref y)]) (by omega) rfl (by decide) rfl dq_Mod_half_107 ?_
          refine qv_goto C (tgt := 85) (by decide) dq_Mod_half_110 ?_
          refine qv_lv [1, 0] (lv' := [(0, .ref y), (2, vi (((k + 1) : Nat) : Int))]) rfl ?_
          rw [sl1_s g (by omega)]
          exact ih (k + 1) (by omega) (by omega)
    refine qv_aload_n C rfl dq_Mod_half_74 ?_
    refine qv_get C fl_Mod_13 0 rfl rfl dq_Mod_half_75 ?_
    refine qv_iconst C dq_Mod_half_78 ?_
    refine qv_iald C 1 0 rfl (by omega) (by omega) (by omega) dq_Mod_half_79 ?_
    refine qv_ifne C (by omega) (tgt := 123) (by decide) dq_Mod_half_80 (fun h80 => ?_) (fun h80 => ?_)
    · skip
      refine qv_vret C hR ?_ dq_Mod_half_123 (by decide) (by decide)
      exact ⟨g, m, x, rfl, Hf_a hgn hx hmx hv (by omega) (by omega)⟩
    · skip
      refine qv_iconst C dq_Mod_half_83 ?_
      refine qv_istore_n C (lv' := [(2, vi 1), (0, .ref y)]) (by decide) rfl dq_Mod_half_84 ?_
      refine qv_lv [1, 0] (lv' := [(0, .ref y), (2, vi 1)]) rfl ?_
      have s0 := shl (by omega) (m - 1) 1 (by omega) (by omega)
      rw [sl1_1] at s0
      exact s0
  have loop : ∀ n i (f2 : Nat → Nat) (c : Nat), i + n = mn → HI f f2 i c → V K 4 [oc y 4 [vi er, vi (b2 mi), .ref dg, vi ((nd : Nat) : Int), vi pl, vi ((zr : Nat) : Int), vi bh, .ref rw, vi ((mn : Nat) : Int), vi fr, vj fo, .ref bt, .ref wz, .ref lw, .ref hg, vi ((ls : Nat) : Int), vi lp, vi ((hs : Nat) : Int), vi hq], ai cI rw 1200 f2] 0 0 4 [(0, .ref y), (1, vi ((c : Nat) : Int)), (2, vi ((i : Nat) : Int))] [] := by
    intro n
    induction n with
    | zero =>
      intro i f2 c hi hH
      have hc2 := hH.2.2.1
      have ei : i = mn := by omega
      subst ei
      refine qv_iload_n C rfl dq_Mod_half_4 ?_
      refine qv_aload_n C rfl dq_Mod_half_5 ?_
      refine qv_get C fl_Mod_40 0 rfl rfl dq_Mod_half_6 ?_
      refine qv_icge C (by omega) (by omega) (tgt := 43) (by decide) dq_Mod_half_9 (fun h9 => ?_) (fun h9 => ?_)
      · skip
        refine qv_iload_n C rfl dq_Mod_half_43 ?_
        refine qv_ifle C (by omega) (tgt := 74) (by decide) dq_Mod_half_44 (fun h44 => ?_) (fun h44 => ?_)
        · skip
          refine qv_lv [0] (lv' := [(0, .ref y)]) rfl ?_
          have ec : c = 0 := by omega
          subst ec
          have a0 := aft f2 i 0 hH.1 (by omega) (by omega) (by have := hH.2.2.2; rw [Nat.pow_zero, Nat.mul_one]; omega)
          have ef : fr + ((0 : Nat) : Int) = fr := by omega
          rw [ef] at a0
          exact a0
        · skip
          refine qv_aload_n C rfl dq_Mod_half_47 ?_
          refine qv_get C fl_Mod_13 0 rfl rfl dq_Mod_half_48 ?_
          refine qv_aload_n C rfl dq_Mod_half_51 ?_
          refine qv_dup C rfl dq_Mod_half_52 ?_
          refine qv_get C fl_Mod_40 0 rfl rfl dq_Mod_half_53 ?_
          refine qv_dup_x1 C rfl rfl dq_Mod_half_56 ?_
          refine qv_iconst C dq_Mod_half_57 ?_
          refine qv_iadd C (r := (((i + 1) : Nat) : Int)) (by omega) dq_Mod_half_58 ?_
          refine qv_put C (ws' := [oc y 4 [vi er, vi (b2 mi), .ref dg, vi ((nd : Nat) : Int), vi pl, vi ((zr : Nat) : Int), vi bh, .ref rw, vi (((i + 1) : Nat) : Int), vi fr, vj fo, .ref bt, .ref wz, .ref lw, .ref hg, vi ((ls : Nat) : Int), vi lp, vi ((hs : Nat) : Int), vi hq], ai cI rw 1200 f2]) fl_Mod_40 fs_4_8 0 rfl rfl rfl (Nat.le_of_ble_eq_true rfl) rfl dq_Mod_half_59 ?_
          refine qv_iconst C dq_Mod_half_62 ?_
          refine qv_iast C (ws' := [oc y 4 [vi er, vi (b2 mi), .ref dg, vi ((nd : Nat) : Int), vi pl, vi ((zr : Nat) : Int), vi bh, .ref rw, vi (((i + 1) : Nat) : Int), vi fr, vj fo, .ref bt, .ref wz, .ref lw, .ref hg, vi ((ls : Nat) : Int), vi lp, vi ((hs : Nat) : Int), vi hq], ai cI rw 1200 (un f2 i 5)]) 1 i 5 rfl (by omega) (by omega) (by omega) (by omega) rfl dq_Mod_half_63 ?_
          refine qv_aload_n C rfl dq_Mod_half_64 ?_
          refine qv_dup C rfl dq_Mod_half_65 ?_
          refine qv_get C fl_Mod_43 0 rfl rfl dq_Mod_half_66 ?_
          refine qv_iconst C dq_Mod_half_69 ?_
          refine qv_iadd C (r := (fr + 1)) rfl dq_Mod_half_70 ?_
          refine qv_put C (ws' := [oc y 4 [vi er, vi (b2 mi), .ref dg, vi ((nd : Nat) : Int), vi pl, vi ((zr : Nat) : Int), vi bh, .ref rw, vi (((i + 1) : Nat) : Int), vi (fr + 1), vj fo, .ref bt, .ref wz, .ref lw, .ref hg, vi ((ls : Nat) : Int), vi lp, vi ((hs : Nat) : Int), vi hq], ai cI rw 1200 (un f2 i 5)]) fl_Mod_43 fs_4_9 0 rfl rfl rfl (Nat.le_of_ble_eq_true rfl) rfl dq_Mod_half_71 ?_
          refine qv_lv [0] (lv' := [(0, .ref y)]) rfl ?_
          have ec : c = 1 := by omega
          subst ec
          exact aft (un f2 i 5) (i + 1) 1 (un_le hH.1 (by omega)) (by omega) rfl (Hf_5 hH)
      · exfalso; omega
    | succ n ih =>
      intro i f2 c hi hH
      have hc2 := hH.2.2.1
      have h9 := hH.1 i
      refine qv_iload_n C rfl dq_Mod_half_4 ?_
      refine qv_aload_n C rfl dq_Mod_half_5 ?_
      refine qv_get C fl_Mod_40 0 rfl rfl dq_Mod_half_6 ?_
      refine qv_icge C (by omega) (by omega) (tgt := 43) (by decide) dq_Mod_half_9 (fun h9 => ?_) (fun h9 => ?_)
      · exfalso; omega
      · skip
        refine qv_bipush C (by decide) dq_Mod_half_12 ?_
        refine qv_iload_n C rfl dq_Mod_half_14 ?_
        refine qv_imul C (r := (((10 * c) : Nat) : Int)) (by omega) dq_Mod_half_15 ?_
        refine qv_aload_n C rfl dq_Mod_half_16 ?_
        refine qv_get C fl_Mod_13 0 rfl rfl dq_Mod_half_17 ?_
        refine qv_iload_n C rfl dq_Mod_half_20 ?_
        refine qv_iald C 1 i rfl (by omega) (by omega) (by omega) dq_Mod_half_21 ?_
        refine qv_iadd C (r := (((10 * c + f2 i) : Nat) : Int)) (by omega) dq_Mod_half_22 ?_
        refine qv_istore_n C (lv' := [(3, vi (((10 * c + f2 i) : Nat) : Int)), (0, .ref y), (1, vi ((c : Nat) : Int)), (2, vi ((i : Nat) : Int))]) (by decide) rfl dq_Mod_half_23 ?_
        refine qv_aload_n C rfl dq_Mod_half_24 ?_
        refine qv_get C fl_Mod_13 0 rfl rfl dq_Mod_half_25 ?_
        refine qv_iload_n C rfl dq_Mod_half_28 ?_
        refine qv_iload_n C rfl dq_Mod_half_29 ?_
        refine qv_iconst C dq_Mod_half_30 ?_
        refine qv_idiv C (r := ((((10 * c + f2 i) / 2) : Nat) : Int)) (by omega) (by omega) (by omega) (by omega) (by omega) dq_Mod_half_31 ?_
        refine qv_iast C (ws' := [oc y 4 [vi er, vi (b2 mi), .ref dg, vi ((nd : Nat) : Int), vi pl, vi ((zr : Nat) : Int), vi bh, .ref rw, vi ((mn : Nat) : Int), vi fr, vj fo, .ref bt, .ref wz, .ref lw, .ref hg, vi ((ls : Nat) : Int), vi lp, vi ((hs : Nat) : Int), vi hq], ai cI rw 1200 (un f2 i ((10 * c + f2 i) / 2))]) 1 i ((10 * c + f2 i) / 2) rfl (by omega) (by omega) (by omega) (by omega) rfl dq_Mod_half_32 ?_
        refine qv_iload_n C rfl dq_Mod_half_33 ?_
        refine qv_iconst C dq_Mod_half_34 ?_
        refine qv_irem C (r := ((((10 * c + f2 i) % 2) : Nat) : Int)) (by omega) (by omega) (by omega) (by omega) (by omega) dq_Mod_half_35 ?_
        refine qv_istore_n C (lv' := [(1, vi ((((10 * c + f2 i) % 2) : Nat) : Int)), (3, vi (((10 * c + f2 i) : Nat) : Int)), (0, .ref y), (2, vi ((i : Nat) : Int))]) (by decide) rfl dq_Mod_half_36 ?_
        refine qv_iinc C (j := 3) (lv' := [(2, vi (((i + 1) : Nat) : Int)), (1, vi ((((10 * c + f2 i) % 2) : Nat) : Int)), (3, vi (((10 * c + f2 i) : Nat) : Int)), (0, .ref y)]) (by omega) rfl (by decide) rfl dq_Mod_half_37 ?_
        refine qv_goto C (tgt := 4) (by decide) dq_Mod_half_40 ?_
        refine qv_lv [3, 1, 0] (lv' := [(0, .ref y), (1, vi ((((10 * c + f2 i) % 2) : Nat) : Int)), (2, vi (((i + 1) : Nat) : Int))]) rfl ?_
        exact ih (i + 1) _ _ (by omega) (HI_s hH)
  refine qv_iconst C dq_Mod_half_0 ?_
  refine qv_istore_n C (lv' := [(1, vi 0), (0, .ref y)]) (by decide) rfl dq_Mod_half_1 ?_
  refine qv_iconst C dq_Mod_half_2 ?_
  refine qv_istore_n C (lv' := [(2, vi 0), (1, vi 0), (0, .ref y)]) (by decide) rfl dq_Mod_half_3 ?_
  refine qv_lv [2, 1, 0] (lv' := [(0, .ref y), (1, vi 0), (2, vi 0)]) rfl ?_
  exact loop mn 0 f 0 (by omega) (HI_0 hf)
end
section
theorem c_Mod_keep (cI cJ : ClassId) (y dg rw bt wz lw hg : Nat) (er : Int) (mi : Bool) (nd : Nat) (pl : Int) (zr : Nat) (bh : Int) (mn : Nat) (fr fo : Int) (ls : Nat) (lp : Int) (hs : Nat) (hq : Int) (f d : Nat → Nat) (hf : ∀ i, f i ≤ 9) (hd : ∀ i, d i ≤ 9) (hm : mn ≤ 1200) (h0 : 0 < mn → f 0 ≠ 0) (hz8 : dz f mn ≤ 800) : MtV cI cJ ky_Mod_keep kb_Mod_keep 4 rm_Mod_keep Xt [.ref y] [oc y 4 [vi er, vi (b2 mi), .ref dg, vi ((nd : Nat) : Int), vi pl, vi ((zr : Nat) : Int), vi bh, .ref rw, vi ((mn : Nat) : Int), vi fr, vj fo, .ref bt, .ref wz, .ref lw, .ref hg, vi ((ls : Nat) : Int), vi lp, vi ((hs : Nat) : Int), vi hq], ai cI rw 1200 f, ai cI dg 800 d] (fun u => u = [mo y dg rw bt wz lw hg er mi (dz f mn) (if dz f mn = 0 then 0 else (mn : Int) - fr) 0 0 mn fr fo ls lp hs hq, ai cI rw 1200 f, ai cI dg 800 (cpd d f (dz f mn))]) := by
  refine MtV_in (by decide) (Nat.le_of_ble_eq_true rfl) (fun K C hR hX hN => ?_)
  show V K 4 [oc y 4 [vi er, vi (b2 mi), .ref dg, vi ((nd : Nat) : Int), vi pl, vi ((zr : Nat) : Int), vi bh, .ref rw, vi ((mn : Nat) : Int), vi fr, vj fo, .ref bt, .ref wz, .ref lw, .ref hg, vi ((ls : Nat) : Int), vi lp, vi ((hs : Nat) : Int), vi hq], ai cI rw 1200 f, ai cI dg 800 d] 0 0 0 [(0, .ref y)] []
  have hdl := dz_le f mn
  have hf0 := hf 0
  have loop3 : ∀ n k, k + n = dz f mn → V K 4 [oc y 4 [vi er, vi (b2 mi), .ref dg, vi ((dz f mn : Nat) : Int), vi (((mn : Nat) : Int) - fr), vi ((zr : Nat) : Int), vi bh, .ref rw, vi ((mn : Nat) : Int), vi fr, vj fo, .ref bt, .ref wz, .ref lw, .ref hg, vi ((ls : Nat) : Int), vi lp, vi ((hs : Nat) : Int), vi hq], ai cI rw 1200 f, ai cI dg 800 (cpd d f k)] 0 0 74 [(0, .ref y), (1, vi 0), (3, vi ((k : Nat) : Int))] [] := by
    intro n
    induction n with
    | zero =>
      intro k hk
      have ek : k = dz f mn := by omega
      refine qv_iload_n C rfl dq_Mod_keep_74 ?_
      refine qv_aload_n C rfl dq_Mod_keep_75 ?_
      refine qv_get C fl_Mod_61 0 rfl rfl dq_Mod_keep_76 ?_
      refine qv_icge C (by omega) (by omega) (tgt := 102) (by decide) dq_Mod_keep_79 (fun h79 => ?_) (fun h79 => ?_)
      · skip
        refine qv_aload_n C rfl dq_Mod_keep_102 ?_
        refine qv_aload_n C rfl dq_Mod_keep_103 ?_
        refine qv_get C fl_Mod_61 0 rfl rfl dq_Mod_keep_104 ?_
        refine qv_ifle C (by omega) (tgt := 119) (by decide) dq_Mod_keep_107 (fun h107 => ?_) (fun h107 => ?_)
        · skip
          refine qv_iconst C dq_Mod_keep_119 ?_
          refine qv_put C (ws' := [oc y 4 [vi er, vi (b2 mi), .ref dg, vi ((dz f mn : Nat) : Int), vi 0, vi ((zr : Nat) : Int), vi bh, .ref rw, vi ((mn : Nat) : Int), vi fr, vj fo, .ref bt, .ref wz, .ref lw, .ref hg, vi ((ls : Nat) : Int), vi lp, vi ((hs : Nat) : Int), vi hq], ai cI rw 1200 f, ai cI dg 800 (cpd d f k)]) fl_Mod_64 fs_4_4 0 rfl rfl rfl (Nat.le_of_ble_eq_true rfl) rfl dq_Mod_keep_120 ?_
          refine qv_aload_n C rfl dq_Mod_keep_123 ?_
          refine qv_iconst C dq_Mod_keep_124 ?_
          refine qv_put C (ws' := [oc y 4 [vi er, vi (b2 mi), .ref dg, vi ((dz f mn : Nat) : Int), vi 0, vi 0, vi bh, .ref rw, vi ((mn : Nat) : Int), vi fr, vj fo, .ref bt, .ref wz, .ref lw, .ref hg, vi ((ls : Nat) : Int), vi lp, vi ((hs : Nat) : Int), vi hq], ai cI rw 1200 f, ai cI dg 800 (cpd d f k)]) fl_Mod_67 fs_4_5 0 rfl rfl rfl (Nat.le_of_ble_eq_true rfl) rfl dq_Mod_keep_125 ?_
          refine qv_aload_n C rfl dq_Mod_keep_128 ?_
          refine qv_iconst C dq_Mod_keep_129 ?_
          refine qv_put C (ws' := [oc y 4 [vi er, vi (b2 mi), .ref dg, vi ((dz f mn : Nat) : Int), vi 0, vi 0, vi 0, .ref rw, vi ((mn : Nat) : Int), vi fr, vj fo, .ref bt, .ref wz, .ref lw, .ref hg, vi ((ls : Nat) : Int), vi lp, vi ((hs : Nat) : Int), vi hq], ai cI rw 1200 f, ai cI dg 800 (cpd d f k)]) fl_Mod_70 fs_4_6 0 rfl rfl rfl (Nat.le_of_ble_eq_true rfl) rfl dq_Mod_keep_130 ?_
          refine qv_vret C hR ?_ dq_Mod_keep_133 (by decide) (by decide)
          show _ = [mo _ _ _ _ _ _ _ _ _ _ _ _ _ _ _ _ _ _ _ _, _, _]
          rw [if_pos (by omega), ek]; rfl
        · skip
          refine qv_aload_n C rfl dq_Mod_keep_110 ?_
          refine qv_get C fl_Mod_64 0 rfl rfl dq_Mod_keep_111 ?_
          refine qv_iload_n C rfl dq_Mod_keep_114 ?_
          refine qv_isub C (r := (((mn : Nat) : Int) - fr)) (by omega) dq_Mod_keep_115 ?_
          refine qv_goto C (tgt := 120) (by decide) dq_Mod_keep_116 ?_
          refine qv_put C (ws' := [oc y 4 [vi er, vi (b2 mi), .ref dg, vi ((dz f mn : Nat) : Int), vi (((mn : Nat) : Int) - fr), vi ((zr : Nat) : Int), vi bh, .ref rw, vi ((mn : Nat) : Int), vi fr, vj fo, .ref bt, .ref wz, .ref lw, .ref hg, vi ((ls : Nat) : Int), vi lp, vi ((hs : Nat) : Int), vi hq], ai cI rw 1200 f, ai cI dg 800 (cpd d f k)]) fl_Mod_64 fs_4_4 0 rfl rfl rfl (Nat.le_of_ble_eq_true rfl) rfl dq_Mod_keep_120 ?_
          refine qv_aload_n C rfl dq_Mod_keep_123 ?_
          refine qv_iconst C dq_Mod_keep_124 ?_
          refine qv_put C (ws' := [oc y 4 [vi er, vi (b2 mi), .ref dg, vi ((dz f mn : Nat) : Int), vi (((mn : Nat) : Int) - fr), vi 0, vi bh, .ref rw, vi ((mn : Nat) : Int), vi fr, vj fo, .ref bt, .ref wz, .ref lw, .ref hg, vi ((ls : Nat) : Int), vi lp, vi ((hs : Nat) : Int), vi hq], ai cI rw 1200 f, ai cI dg 800 (cpd d f k)]) fl_Mod_67 fs_4_5 0 rfl rfl rfl (Nat.le_of_ble_eq_true rfl) rfl dq_Mod_keep_125 ?_
          refine qv_aload_n C rfl dq_Mod_keep_128 ?_
          refine qv_iconst C dq_Mod_keep_129 ?_
          refine qv_put C (ws' := [oc y 4 [vi er, vi (b2 mi), .ref dg, vi ((dz f mn : Nat) : Int), vi (((mn : Nat) : Int) - fr), vi 0, vi 0, .ref rw, vi ((mn : Nat) : Int), vi fr, vj fo, .ref bt, .ref wz, .ref lw, .ref hg, vi ((ls : Nat) : Int), vi lp, vi ((hs : Nat) : Int), vi hq], ai cI rw 1200 f, ai cI dg 800 (cpd d f k)]) fl_Mod_70 fs_4_6 0 rfl rfl rfl (Nat.le_of_ble_eq_true rfl) rfl dq_Mod_keep_130 ?_
          refine qv_vret C hR ?_ dq_Mod_keep_133 (by decide) (by decide)
          show _ = [mo _ _ _ _ _ _ _ _ _ _ _ _ _ _ _ _ _ _ _ _, _, _]
          rw [if_neg (by omega), ek]; rfl
      · exfalso; omega
    | succ n ih =>
      intro k hk
      refine qv_iload_n C rfl dq_Mod_keep_74 ?_
      refine qv_aload_n C rfl dq_Mod_keep_75 ?_
      refine qv_get C fl_Mod_61 0 rfl rfl dq_Mod_keep_76 ?_
      refine qv_icge C (by omega) (by omega) (tgt := 102) (by decide) dq_Mod_keep_79 (fun h79 => ?_) (fun h79 => ?_)
      · exfalso; omega
      · skip
        refine qv_aload_n C rfl dq_Mod_keep_82 ?_
        refine qv_get C fl_Mod_9 0 rfl rfl dq_Mod_keep_83 ?_
        refine qv_iload_n C rfl dq_Mod_keep_86 ?_
        refine qv_aload_n C rfl dq_Mod_keep_87 ?_
        refine qv_get C fl_Mod_13 0 rfl rfl dq_Mod_keep_88 ?_
        refine qv_iload_n C rfl dq_Mod_keep_91 ?_
        refine qv_iload_n C rfl dq_Mod_keep_92 ?_
        refine qv_iadd C (r := ((k : Nat) : Int)) (by omega) dq_Mod_keep_93 ?_
        refine qv_iald C 1 k rfl (by omega) (by omega) (by omega) dq_Mod_keep_94 ?_
        refine qv_iast C (ws' := [oc y 4 [vi er, vi (b2 mi), .ref dg, vi ((dz f mn : Nat) : Int), vi (((mn : Nat) : Int) - fr), vi ((zr : Nat) : Int), vi bh, .ref rw, vi ((mn : Nat) : Int), vi fr, vj fo, .ref bt, .ref wz, .ref lw, .ref hg, vi ((ls : Nat) : Int), vi lp, vi ((hs : Nat) : Int), vi hq], ai cI rw 1200 f, ai cI dg 800 (un (cpd d f k) k (f k))]) 2 k (f k) rfl (by omega) (by omega) (by omega) (by omega) rfl dq_Mod_keep_95 ?_
        refine qv_iinc C (j := 2) (lv' := [(3, vi (((k + 1) : Nat) : Int)), (0, .ref y), (1, vi 0)]) (by omega) rfl (by decide) rfl dq_Mod_keep_96 ?_
        refine qv_goto C (tgt := 74) (by decide) dq_Mod_keep_99 ?_
        refine qv_lv [1, 2, 0] (lv' := [(0, .ref y), (1, vi 0), (3, vi (((k + 1) : Nat) : Int))]) rfl ?_
        rw [cpd_s]
        exact ih (k + 1) (by omega)
  have loop2 : ∀ b, b ≤ mn → dz f b = dz f mn → V K 4 [oc y 4 [vi er, vi (b2 mi), .ref dg, vi ((nd : Nat) : Int), vi (((mn : Nat) : Int) - fr), vi ((zr : Nat) : Int), vi bh, .ref rw, vi ((mn : Nat) : Int), vi fr, vj fo, .ref bt, .ref wz, .ref lw, .ref hg, vi ((ls : Nat) : Int), vi lp, vi ((hs : Nat) : Int), vi hq], ai cI rw 1200 f, ai cI dg 800 d] 0 0 43 [(0, .ref y), (1, vi 0), (2, vi ((b : Nat) : Int))] [] := by
    intro b
    induction b with
    | zero =>
      intro hb he
      refine qv_iload_n C rfl dq_Mod_keep_43 ?_
      refine qv_iload_n C rfl dq_Mod_keep_44 ?_
      refine qv_icle C (by omega) (by omega) (tgt := 65) (by decide) dq_Mod_keep_45 (fun h45 => ?_) (fun h45 => ?_)
      · skip
        refine qv_aload_n C rfl dq_Mod_keep_65 ?_
        refine qv_iload_n C rfl dq_Mod_keep_66 ?_
        refine qv_iload_n C rfl dq_Mod_keep_67 ?_
        refine qv_isub C (r := ((dz f mn : Nat) : Int)) (by rw [← he]; rfl) dq_Mod_keep_68 ?_
        refine qv_put C (ws' := [oc y 4 [vi er, vi (b2 mi), .ref dg, vi ((dz f mn : Nat) : Int), vi (((mn : Nat) : Int) - fr), vi ((zr : Nat) : Int), vi bh, .ref rw, vi ((mn : Nat) : Int), vi fr, vj fo, .ref bt, .ref wz, .ref lw, .ref hg, vi ((ls : Nat) : Int), vi lp, vi ((hs : Nat) : Int), vi hq], ai cI rw 1200 f, ai cI dg 800 d]) fl_Mod_61 fs_4_3 0 rfl rfl rfl (Nat.le_of_ble_eq_true rfl) rfl dq_Mod_keep_69 ?_
        refine qv_iconst C dq_Mod_keep_72 ?_
        refine qv_istore_n C (lv' := [(3, vi 0), (0, .ref y), (1, vi 0), (2, vi ((0 : Nat) : Int))]) (by decide) rfl dq_Mod_keep_73 ?_
        refine qv_lv [1, 2, 0] (lv' := [(0, .ref y), (1, vi 0), (3, vi 0)]) rfl ?_
        have l0 := loop3 (dz f mn) 0 (by omega)
        rw [cpd_0] at l0
        exact l0
      · exfalso; omega
    | succ b ih =>
      intro hb he
      have h9 := hf b
      refine qv_iload_n C rfl dq_Mod_keep_43 ?_
      refine qv_iload_n C rfl dq_Mod_keep_44 ?_
      refine qv_icle C (by omega) (by omega) (tgt := 65) (by decide) dq_Mod_keep_45 (fun h45 => ?_) (fun h45 => ?_)
      · exfalso; omega
      · skip
        refine qv_aload_n C rfl dq_Mod_keep_48 ?_
        refine qv_get C fl_Mod_13 0 rfl rfl dq_Mod_keep_49 ?_
        refine qv_iload_n C rfl dq_Mod_keep_52 ?_
        refine qv_iconst C dq_Mod_keep_53 ?_
        refine qv_isub C (r := ((b : Nat) : Int)) (by omega) dq_Mod_keep_54 ?_
        refine qv_iald C 1 b rfl (by omega) (by omega) (by omega) dq_Mod_keep_55 ?_
        refine qv_ifne C (by omega) (tgt := 65) (by decide) dq_Mod_keep_56 (fun h56 => ?_) (fun h56 => ?_)
        · skip
          refine qv_aload_n C rfl dq_Mod_keep_65 ?_
          refine qv_iload_n C rfl dq_Mod_keep_66 ?_
          refine qv_iload_n C rfl dq_Mod_keep_67 ?_
          refine qv_isub C (r := ((dz f mn : Nat) : Int)) (by rw [← he, dz_s1 (by omega)]; omega) dq_Mod_keep_68 ?_
          refine qv_put C (ws' := [oc y 4 [vi er, vi (b2 mi), .ref dg, vi ((dz f mn : Nat) : Int), vi (((mn : Nat) : Int) - fr), vi ((zr : Nat) : Int), vi bh, .ref rw, vi ((mn : Nat) : Int), vi fr, vj fo, .ref bt, .ref wz, .ref lw, .ref hg, vi ((ls : Nat) : Int), vi lp, vi ((hs : Nat) : Int), vi hq], ai cI rw 1200 f, ai cI dg 800 d]) fl_Mod_61 fs_4_3 0 rfl rfl rfl (Nat.le_of_ble_eq_true rfl) rfl dq_Mod_keep_69 ?_
          refine qv_iconst C dq_Mod_keep_72 ?_
          refine qv_istore_n C (lv' := [(3, vi 0), (0, .ref y), (1, vi 0), (2, vi (((b + 1) : Nat) : Int))]) (by decide) rfl dq_Mod_keep_73 ?_
          refine qv_lv [1, 2, 0] (lv' := [(0, .ref y), (1, vi 0), (3, vi 0)]) rfl ?_
          have l0 := loop3 (dz f mn) 0 (by omega)
          rw [cpd_0] at l0
          exact l0
        · skip
          refine qv_iinc C (j := 2) (lv' := [(2, vi ((b : Nat) : Int)), (0, .ref y), (1, vi 0)]) (by omega) rfl (by decide) rfl dq_Mod_keep_59 ?_
          refine qv_goto C (tgt := 43) (by decide) dq_Mod_keep_62 ?_
          refine qv_lv [1, 2, 0] (lv' := [(0, .ref y), (1, vi 0), (2, vi ((b : Nat) : Int))]) rfl ?_
          exact ih (by omega) (by rw [← he, dz_s0 (by omega)])
  by_cases hm0 : mn = 0
  · subst hm0
    refine qv_aload_n C rfl dq_Mod_keep_0 ?_
    refine qv_aload_n C rfl dq_Mod_keep_1 ?_
    refine qv_get C fl_Mod_40 0 rfl rfl dq_Mod_keep_2 ?_
    refine qv_aload_n C rfl dq_Mod_keep_5 ?_
    refine qv_get C fl_Mod_43 0 rfl rfl dq_Mod_keep_6 ?_
    refine qv_isub C (r := (((0 : Nat) : Int) - fr)) rfl dq_Mod_keep_9 ?_
    refine qv_put C (ws' := [oc y 4 [vi er, vi (b2 mi), .ref dg, vi ((nd : Nat) : Int), vi (((0 : Nat) : Int) - fr), vi ((zr : Nat) : Int), vi bh, .ref rw, vi ((0 : Nat) : Int), vi fr, vj fo, .ref bt, .ref wz, .ref lw, .ref hg, vi ((ls : Nat) : Int), vi lp, vi ((hs : Nat) : Int), vi hq], ai cI rw 1200 f, ai cI dg 800 d]) fl_Mod_64 fs_4_4 0 rfl rfl rfl (Nat.le_of_ble_eq_true rfl) rfl dq_Mod_keep_10 ?_
    refine qv_iconst C dq_Mod_keep_13 ?_
    refine qv_istore_n C (lv' := [(1, vi 0), (0, .ref y)]) (by decide) rfl dq_Mod_keep_14 ?_
    refine qv_iload_n C rfl dq_Mod_keep_15 ?_
    refine qv_aload_n C rfl dq_Mod_keep_16 ?_
    refine qv_get C fl_Mod_40 0 rfl rfl dq_Mod_keep_17 ?_
    refine qv_icge C (by omega) (by omega) (tgt := 38) (by decide) dq_Mod_keep_20 (fun h20 => ?_) (fun h20 => ?_)
    · skip
      refine qv_aload_n C rfl dq_Mod_keep_38 ?_
      refine qv_get C fl_Mod_40 0 rfl rfl dq_Mod_keep_39 ?_
      refine qv_istore_n C (lv' := [(2, vi ((0 : Nat) : Int)), (1, vi 0), (0, .ref y)]) (by decide) rfl dq_Mod_keep_42 ?_
      refine qv_lv [2, 1, 0] (lv' := [(0, .ref y), (1, vi 0), (2, vi ((0 : Nat) : Int))]) rfl ?_
      exact loop2 0 (by omega) rfl
    · exfalso; omega
  · have h00 := h0 (by omega)
    refine qv_aload_n C rfl dq_Mod_keep_0 ?_
    refine qv_aload_n C rfl dq_Mod_keep_1 ?_
    refine qv_get C fl_Mod_40 0 rfl rfl dq_Mod_keep_2 ?_
    refine qv_aload_n C rfl dq_Mod_keep_5 ?_
    refine qv_get C fl_Mod_43 0 rfl rfl dq_Mod_keep_6 ?_
    refine qv_isub C (r := (((mn : Nat) : Int) - fr)) rfl dq_Mod_keep_9 ?_
    refine qv_put C (ws' := [oc y 4 [vi er, vi (b2 mi), .ref dg, vi ((nd : Nat) : Int), vi (((mn : Nat) : Int) - fr), vi ((zr : Nat) : Int), vi bh, .ref rw, vi ((mn : Nat) : Int), vi fr, vj fo, .ref bt, .ref wz, .ref lw, .ref hg, vi ((ls : Nat) : Int), vi lp, vi ((hs : Nat) : Int), vi hq], ai cI rw 1200 f, ai cI dg 800 d]) fl_Mod_64 fs_4_4 0 rfl rfl rfl (Nat.le_of_ble_eq_true rfl) rfl dq_Mod_keep_10 ?_
    refine qv_iconst C dq_Mod_keep_13 ?_
    refine qv_istore_n C (lv' := [(1, vi 0), (0, .ref y)]) (by decide) rfl dq_Mod_keep_14 ?_
    refine qv_iload_n C rfl dq_Mod_keep_15 ?_
    refine qv_aload_n C rfl dq_Mod_keep_16 ?_
    refine qv_get C fl_Mod_40 0 rfl rfl dq_Mod_keep_17 ?_
    refine qv_icge C (by omega) (by omega) (tgt := 38) (by decide) dq_Mod_keep_20 (fun h20 => ?_) (fun h20 => ?_)
    · exfalso; omega
    · skip
      refine qv_aload_n C rfl dq_Mod_keep_23 ?_
      refine qv_get C fl_Mod_13 0 rfl rfl dq_Mod_keep_24 ?_
      refine qv_iload_n C rfl dq_Mod_keep_27 ?_
      refine qv_iald C 1 0 rfl (by omega) (by omega) (by omega) dq_Mod_keep_28 ?_
      refine qv_ifne C (by omega) (tgt := 38) (by decide) dq_Mod_keep_29 (fun h29 => ?_) (fun h29 => ?_)
      · skip
        refine qv_aload_n C rfl dq_Mod_keep_38 ?_
        refine qv_get C fl_Mod_40 0 rfl rfl dq_Mod_keep_39 ?_
        refine qv_istore_n C (lv' := [(2, vi ((mn : Nat) : Int)), (1, vi 0), (0, .ref y)]) (by decide) rfl dq_Mod_keep_42 ?_
        refine qv_lv [2, 1, 0] (lv' := [(0, .ref y), (1, vi 0), (2, vi ((mn : Nat) : Int))]) rfl ?_
        exact loop2 mn (by omega) rfl
      · exfalso; omega

theorem c_Mod_cut (cI cJ : ClassId) (y dg rw bt wz lw hg : Nat) (er : Int) (mi : Bool) (nd : Nat) (pl : Int) (zr : Nat) (bh : Int) (mn : Nat) (fr fo : Int) (ls : Nat) (lp : Int) (hs : Nat) (hq : Int) (d : Nat → Nat) (z : Int) (hd : ∀ i, d i ≤ 9) (hnd : nd ≤ 800) (hz : rj z) : MtV cI cJ ky_Mod_cut kb_Mod_cut 5 rm_Mod_cut Xt [.ref y, vj z] [oc y 4 [vi er, vi (b2 mi), .ref dg, vi ((nd : Nat) : Int), vi pl, vi ((zr : Nat) : Int), vi bh, .ref rw, vi ((mn : Nat) : Int), vi fr, vj fo, .ref bt, .ref wz, .ref lw, .ref hg, vi ((ls : Nat) : Int), vi lp, vi ((hs : Nat) : Int), vi hq], ai cI dg 800 d] (fun u => u = [mo y dg rw bt wz lw hg er mi (cL d nd z) (cP d nd z pl) 0 0 mn fr fo ls lp hs hq, ai cI dg 800 (cF d nd z)]) := by
  refine MtV_in (by decide) (Nat.le_of_ble_eq_true rfl) (fun K C hR hX hN => ?_)
  show V K 5 [oc y 4 [vi er, vi (b2 mi), .ref dg, vi ((nd : Nat) : Int), vi pl, vi ((zr : Nat) : Int), vi bh, .ref rw, vi ((mn : Nat) : Int), vi fr, vj fo, .ref bt, .ref wz, .ref lw, .ref hg, vi ((ls : Nat) : Int), vi lp, vi ((hs : Nat) : Int), vi hq], ai cI dg 800 d] 0 0 0 [(0, .ref y), (1, vj z)] []
  have aft : ∀ (g : Nat → Nat) (l0 : Nat) (p : Int), (∀ i, g i ≤ 9) → l0 ≤ 800 → dz g l0 = cL d nd z → (if dz g l0 = 0 then 0 else p) = cP d nd z pl → g = cF d nd z → ∀ l, l ≤ l0 → dz g l = dz g l0 → V K 5 [oc y 4 [vi er, vi (b2 mi), .ref dg, vi ((l : Nat) : Int), vi p, vi 0, vi 0, .ref rw, vi ((mn : Nat) : Int), vi fr, vj fo, .ref bt, .ref wz, .ref lw, .ref hg, vi ((ls : Nat) : Int), vi lp, vi ((hs : Nat) : Int), vi hq], ai cI dg 800 g] 0 0 182 [(0, .ref y)] [] := by
    intro g l0 p hg9 hl0 h1 h2 h3 l
    induction l with
    | zero =>
      intro hl he
      refine qv_aload_n C rfl dq_Mod_cut_182 ?_
      refine qv_get C fl_Mod_61 0 rfl rfl dq_Mod_cut_183 ?_
      refine qv_ifle C (by omega) (tgt := 216) (by decide) dq_Mod_cut_186 (fun h186 => ?_) (fun h186 => ?_)
      · skip
        refine qv_aload_n C rfl dq_Mod_cut_216 ?_
        refine qv_get C fl_Mod_61 0 rfl rfl dq_Mod_cut_217 ?_
        refine qv_ifne C (by omega) (tgt := 227) (by decide) dq_Mod_cut_220 (fun h220 => ?_) (fun h220 => ?_)
        · exfalso; omega
        · skip
          refine qv_aload_n C rfl dq_Mod_cut_223 ?_
          refine qc_vV (wr := [ai cI dg 800 g]) (st := []) C cl_Mod_83 cd_Mod_nothing (c_Mod_nothing cI cJ y dg rw bt wz lw hg er mi 0 p 0 0 mn fr fo ls lp hs hq) (Xok_t K) Xbl_t [0] [1] rfl rfl (by decide) (by decide) (by decide) 0 rfl rfl rfl rfl rfl (Nat.le_of_ble_eq_true rfl) (by decide) (by decide) dq_Mod_cut_224 (fun u hu => ?_)
          obtain rfl := hu
          show V K 5 [ai cI dg 800 g, oc y 4 [vi er, vi (b2 mi), .ref dg, vi 0, vi 0, vi 0, vi 0, .ref rw, vi ((mn : Nat) : Int), vi fr, vj fo, .ref bt, .ref wz, .ref lw, .ref hg, vi ((ls : Nat) : Int), vi lp, vi ((hs : Nat) : Int), vi hq]] 0 0 227 [(0, .ref y)] []
          refine qv_ws [1, 0] (ws' := [oc y 4 [vi er, vi (b2 mi), .ref dg, vi 0, vi 0, vi 0, vi 0, .ref rw, vi ((mn : Nat) : Int), vi fr, vj fo, .ref bt, .ref wz, .ref lw, .ref hg, vi ((ls : Nat) : Int), vi lp, vi ((hs : Nat) : Int), vi hq], ai cI dg 800 g]) (by decide) rfl ?_
          refine qv_vret C hR ?_ dq_Mod_cut_227 (by decide) (by decide)
          show _ = [mo _ _ _ _ _ _ _ _ _ _ _ _ _ _ _ _ _ _ _ _, _]
          have e0 : dz g l0 = 0 := he.symm
          rw [if_pos e0] at h2
          rw [← h1, ← h2, ← h3, e0]; rfl
      · exfalso; omega
    | succ l ih =>
      intro hl he
      have h9 := hg9 l
      refine qv_aload_n C rfl dq_Mod_cut_182 ?_
      refine qv_get C fl_Mod_61 0 rfl rfl dq_Mod_cut_183 ?_
      refine qv_ifle C (by omega) (tgt := 216) (by decide) dq_Mod_cut_186 (fun h186 => ?_) (fun h186 => ?_)
      · exfalso; omega
      · skip
        refine qv_aload_n C rfl dq_Mod_cut_189 ?_
        refine qv_get C fl_Mod_9 0 rfl rfl dq_Mod_cut_190 ?_
        refine qv_aload_n C rfl dq_Mod_cut_193 ?_
        refine qv_get C fl_Mod_61 0 rfl rfl dq_Mod_cut_194 ?_
        refine qv_iconst C dq_Mod_cut_197 ?_
        refine qv_isub C (r := ((l : Nat) : Int)) (by omega) dq_Mod_cut_198 ?_
        refine qv_iald C 1 l rfl (by omega) (by omega) (by omega) dq_Mod_cut_199 ?_
        refine qv_ifne C (by omega) (tgt := 216) (by decide) dq_Mod_cut_200 (fun h200 => ?_) (fun h200 => ?_)
        · skip
          refine qv_aload_n C rfl dq_Mod_cut_216 ?_
          refine qv_get C fl_Mod_61 0 rfl rfl dq_Mod_cut_217 ?_
          refine qv_ifne C (by omega) (tgt := 227) (by decide) dq_Mod_cut_220 (fun h220 => ?_) (fun h220 => ?_)
          · skip
            refine qv_vret C hR ?_ dq_Mod_cut_227 (by decide) (by decide)
            show _ = [mo _ _ _ _ _ _ _ _ _ _ _ _ _ _ _ _ _ _ _ _, _]
            have e0 : dz g l0 = l + 1 := by rw [← he, dz_s1 (by omega)]
            rw [if_neg (by omega)] at h2
            rw [← h1, ← h2, ← h3, e0]; rfl
          · exfalso; omega
        · skip
          refine qv_aload_n C rfl dq_Mod_cut_203 ?_
          refine qv_dup C rfl dq_Mod_cut_204 ?_
          refine qv_get C fl_Mod_61 0 rfl rfl dq_Mod_cut_205 ?_
          refine qv_iconst C dq_Mod_cut_208 ?_
          refine qv_isub C (r := ((l : Nat) : Int)) (by omega) dq_Mod_cut_209 ?_
          refine qv_put C (ws' := [oc y 4 [vi er, vi (b2 mi), .ref dg, vi ((l : Nat) : Int), vi p, vi 0, vi 0, .ref rw, vi ((mn : Nat) : Int), vi fr, vj fo, .ref bt, .ref wz, .ref lw, .ref hg, vi ((ls : Nat) : Int), vi lp, vi ((hs : Nat) : Int), vi hq], ai cI dg 800 g]) fl_Mod_61 fs_4_3 0 rfl rfl rfl (Nat.le_of_ble_eq_true rfl) rfl dq_Mod_cut_210 ?_
          refine qv_goto C (tgt := 182) (by decide) dq_Mod_cut_213 ?_
          exact ih (by omega) (by rw [← he, dz_s0 (by omega)])
  have hup : ∀ n : Nat, z = (n : Int) → n < nd → gu d nd n = true → V K 5 [oc y 4 [vi er, vi (b2 mi), .ref dg, vi ((n : Nat) : Int), vi pl, vi 0, vi 0, .ref rw, vi ((mn : Nat) : Int), vi fr, vj fo, .ref bt, .ref wz, .ref lw, .ref hg, vi ((ls : Nat) : Int), vi lp, vi ((hs : Nat) : Int), vi hq], ai cI dg 800 d] 0 0 99 [(0, .ref y)] [] := by
    intro n hzn hn hgu
    have hle := dn_le d n
    have e1 : cL d nd z = upL d n := by rw [hzn, cL_n hn]; unfold ctL; exact if_pos hgu
    have e2 : cP d nd z pl = upP d n pl := by rw [hzn, cP_n hn]; unfold ctP; exact if_pos hgu
    have e3 : cF d nd z = upF d n := by rw [hzn, cF_n hn]; unfold ctF; exact if_pos hgu
    have hup0 := upL_pos d n
    have a1 : ∀ l, dn d n = l → V K 5 [oc y 4 [vi er, vi (b2 mi), .ref dg, vi ((l : Nat) : Int), vi pl, vi 0, vi 0, .ref rw, vi ((mn : Nat) : Int), vi fr, vj fo, .ref bt, .ref wz, .ref lw, .ref hg, vi ((ls : Nat) : Int), vi lp, vi ((hs : Nat) : Int), vi hq], ai cI dg 800 d] 0 0 135 [(0, .ref y)] [] := by
      intro l hl2
      refine qv_aload_n C rfl dq_Mod_cut_135 ?_
      refine qv_get C fl_Mod_61 0 rfl rfl dq_Mod_cut_136 ?_
      refine qv_ifne C (by omega) (tgt := 167) (by decide) dq_Mod_cut_139 (fun h139 => ?_) (fun h139 => ?_)
      · skip
        refine qv_aload_n C rfl dq_Mod_cut_167 ?_
        refine qv_get C fl_Mod_9 0 rfl rfl dq_Mod_cut_168 ?_
        refine qv_aload_n C rfl dq_Mod_cut_171 ?_
        refine qv_get C fl_Mod_61 0 rfl rfl dq_Mod_cut_172 ?_
        refine qv_iconst C dq_Mod_cut_175 ?_
        refine qv_isub C (r := (((l - 1) : Nat) : Int)) (by omega) dq_Mod_cut_176 ?_
        refine qv_dup2 C rfl rfl dq_Mod_cut_177 ?_
        refine qv_iald C 1 (l - 1) rfl (by omega) (by omega) (by omega) dq_Mod_cut_178 ?_
        refine qv_iconst C dq_Mod_cut_179 ?_
        refine qv_iadd C (r := (((d (l - 1) + 1) : Nat) : Int)) (by omega) dq_Mod_cut_180 ?_
        refine qv_iast C (ws' := [oc y 4 [vi er, vi (b2 mi), .ref dg, vi ((l : Nat) : Int), vi pl, vi 0, vi 0, .ref rw, vi ((mn : Nat) : Int), vi fr, vj fo, .ref bt, .ref wz, .ref lw, .ref hg, vi ((ls : Nat) : Int), vi lp, vi ((hs : Nat) : Int), vi hq], ai cI dg 800 (un d (l - 1) (d (l - 1) + 1))]) 1 (l - 1) (d (l - 1) + 1) rfl (by omega) (by omega) (by omega) (by omega) rfl dq_Mod_cut_181 ?_
        have a0 := aft (upF d n) (upL d n) (upP d n pl) (upF_9 hd) (by have := upL_le d n; omega) (by rw [e1]; exact upF_dz d n) (by rw [upF_dz, if_neg (by omega), e2]) e3.symm (upL d n) (Nat.le_refl _) rfl
        unfold upL upP upF at a0
        rw [if_neg (by omega), if_neg (by omega), if_neg (by omega), hl2] at a0
        exact a0
      · skip
        refine qv_aload_n C rfl dq_Mod_cut_142 ?_
        refine qv_get C fl_Mod_9 0 rfl rfl dq_Mod_cut_143 ?_
        refine qv_iconst C dq_Mod_cut_146 ?_
        refine qv_iconst C dq_Mod_cut_147 ?_
        refine qv_iast C (ws' := [oc y 4 [vi er, vi (b2 mi), .ref dg, vi ((l : Nat) : Int), vi pl, vi 0, vi 0, .ref rw, vi ((mn : Nat) : Int), vi fr, vj fo, .ref bt, .ref wz, .ref lw, .ref hg, vi ((ls : Nat) : Int), vi lp, vi ((hs : Nat) : Int), vi hq], ai cI dg 800 (un d 0 1)]) 1 0 1 rfl (by omega) (by omega) (by omega) (by omega) rfl dq_Mod_cut_148 ?_
        refine qv_aload_n C rfl dq_Mod_cut_149 ?_
        refine qv_iconst C dq_Mod_cut_150 ?_
        refine qv_put C (ws' := [oc y 4 [vi er, vi (b2 mi), .ref dg, vi 1, vi pl, vi 0, vi 0, .ref rw, vi ((mn : Nat) : Int), vi fr, vj fo, .ref bt, .ref wz, .ref lw, .ref hg, vi ((ls : Nat) : Int), vi lp, vi ((hs : Nat) : Int), vi hq], ai cI dg 800 (un d 0 1)]) fl_Mod_61 fs_4_3 0 rfl rfl rfl (Nat.le_of_ble_eq_true rfl) rfl dq_Mod_cut_151 ?_
        refine qv_aload_n C rfl dq_Mod_cut_154 ?_
        refine qv_dup C rfl dq_Mod_cut_155 ?_
        refine qv_get C fl_Mod_64 0 rfl rfl dq_Mod_cut_156 ?_
        refine qv_iconst C dq_Mod_cut_159 ?_
        refine qv_iadd C (r := (pl + 1)) rfl dq_Mod_cut_160 ?_
        refine qv_put C (ws' := [oc y 4 [vi er, vi (b2 mi), .ref dg, vi 1, vi (pl + 1), vi 0, vi 0, .ref rw, vi ((mn : Nat) : Int), vi fr, vj fo, .ref bt, .ref wz, .ref lw, .ref hg, vi ((ls : Nat) : Int), vi lp, vi ((hs : Nat) : Int), vi hq], ai cI dg 800 (un d 0 1)]) fl_Mod_64 fs_4_4 0 rfl rfl rfl (Nat.le_of_ble_eq_true rfl) rfl dq_Mod_cut_161 ?_
        refine qv_goto C (tgt := 182) (by decide) dq_Mod_cut_164 ?_
        have a0 := aft (upF d n) (upL d n) (upP d n pl) (upF_9 hd) (by have := upL_le d n; omega) (by rw [e1]; exact upF_dz d n) (by rw [upF_dz, if_neg (by omega), e2]) e3.symm (upL d n) (Nat.le_refl _) rfl
        unfold upL upP upF at a0
        rw [if_pos (by omega), if_pos (by omega), if_pos (by omega)] at a0
        exact a0
    have lp : ∀ l, l ≤ 800 → dn d l = dn d n → V K 5 [oc y 4 [vi er, vi (b2 mi), .ref dg, vi ((l : Nat) : Int), vi pl, vi 0, vi 0, .ref rw, vi ((mn : Nat) : Int), vi fr, vj fo, .ref bt, .ref wz, .ref lw, .ref hg, vi ((ls : Nat) : Int), vi lp, vi ((hs : Nat) : Int), vi hq], ai cI dg 800 d] 0 0 99 [(0, .ref y)] [] := by
      intro l
      induction l with
      | zero =>
        intro q1 q2
        refine qv_aload_n C rfl dq_Mod_cut_99 ?_
        refine qv_get C fl_Mod_61 0 rfl rfl dq_Mod_cut_100 ?_
        refine qv_ifle C (by omega) (tgt := 135) (by decide) dq_Mod_cut_103 (fun h103 => ?_) (fun h103 => ?_)
        · skip
          exact a1 _ q2.symm
        · exfalso; omega
      | succ l ih =>
        intro q1 q2
        have h9 := hd l
        refine qv_aload_n C rfl dq_Mod_cut_99 ?_
        refine qv_get C fl_Mod_61 0 rfl rfl dq_Mod_cut_100 ?_
        refine qv_ifle C (by omega) (tgt := 135) (by decide) dq_Mod_cut_103 (fun h103 => ?_) (fun h103 => ?_)
        · exfalso; omega
        · skip
          refine qv_aload_n C rfl dq_Mod_cut_106 ?_
          refine qv_get C fl_Mod_9 0 rfl rfl dq_Mod_cut_107 ?_
          refine qv_aload_n C rfl dq_Mod_cut_110 ?_
          refine qv_get C fl_Mod_61 0 rfl rfl dq_Mod_cut_111 ?_
          refine qv_iconst C dq_Mod_cut_114 ?_
          refine qv_isub C (r := ((l : Nat) : Int)) (by omega) dq_Mod_cut_115 ?_
          refine qv_iald C 1 l rfl (by omega) (by omega) (by omega) dq_Mod_cut_116 ?_
          refine qv_bipush C (by decide) dq_Mod_cut_117 ?_
          refine qv_icne C (by omega) (by omega) (tgt := 135) (by decide) dq_Mod_cut_119 (fun h119 => ?_) (fun h119 => ?_)
          · skip
            exact a1 _ (by rw [← q2, dn_s1 (by omega)])
          · skip
            refine qv_aload_n C rfl dq_Mod_cut_122 ?_
            refine qv_dup C rfl dq_Mod_cut_123 ?_
            refine qv_get C fl_Mod_61 0 rfl rfl dq_Mod_cut_124 ?_
            refine qv_iconst C dq_Mod_cut_127 ?_
            refine qv_isub C (r := ((l : Nat) : Int)) (by omega) dq_Mod_cut_128 ?_
            refine qv_put C (ws' := [oc y 4 [vi er, vi (b2 mi), .ref dg, vi ((l : Nat) : Int), vi pl, vi 0, vi 0, .ref rw, vi ((mn : Nat) : Int), vi fr, vj fo, .ref bt, .ref wz, .ref lw, .ref hg, vi ((ls : Nat) : Int), vi lp, vi ((hs : Nat) : Int), vi hq], ai cI dg 800 d]) fl_Mod_61 fs_4_3 0 rfl rfl rfl (Nat.le_of_ble_eq_true rfl) rfl dq_Mod_cut_129 ?_
            refine qv_goto C (tgt := 99) (by decide) dq_Mod_cut_132 ?_
            exact ih (by omega) (by rw [← q2, dn_s0 (by omega)])
    exact lp n (by omega) rfl
  have hdn : ∀ n : Nat, z = (n : Int) → n < nd → gu d nd n = false → V K 5 [oc y 4 [vi er, vi (b2 mi), .ref dg, vi ((n : Nat) : Int), vi pl, vi 0, vi 0, .ref rw, vi ((mn : Nat) : Int), vi fr, vj fo, .ref bt, .ref wz, .ref lw, .ref hg, vi ((ls : Nat) : Int), vi lp, vi ((hs : Nat) : Int), vi hq], ai cI dg 800 d] 0 0 182 [(0, .ref y)] [] := by
    intro n hzn hn hgu
    have hg2 : ¬ gu d nd n = true := by rw [hgu]; decide
    have e1 : cL d nd z = dz d n := by rw [hzn, cL_n hn]; unfold ctL; exact if_neg hg2
    have e2 : cP d nd z pl = dnP d n pl := by rw [hzn, cP_n hn]; unfold ctP; exact if_neg hg2
    have e3 : cF d nd z = d := by rw [hzn, cF_n hn]; unfold ctF; exact if_neg hg2
    exact aft d n pl hd (by omega) e1.symm e2.symm e3.symm n (Nat.le_refl _) rfl
  refine qv_aload_n C rfl dq_Mod_cut_0 ?_
  refine qv_iconst C dq_Mod_cut_1 ?_
  refine qv_put C (ws' := [oc y 4 [vi er, vi (b2 mi), .ref dg, vi ((nd : Nat) : Int), vi pl, vi 0, vi bh, .ref rw, vi ((mn : Nat) : Int), vi fr, vj fo, .ref bt, .ref wz, .ref lw, .ref hg, vi ((ls : Nat) : Int), vi lp, vi ((hs : Nat) : Int), vi hq], ai cI dg 800 d]) fl_Mod_67 fs_4_5 0 rfl rfl rfl (Nat.le_of_ble_eq_true rfl) rfl dq_Mod_cut_2 ?_
  refine qv_aload_n C rfl dq_Mod_cut_5 ?_
  refine qv_iconst C dq_Mod_cut_6 ?_
  refine qv_put C (ws' := [oc y 4 [vi er, vi (b2 mi), .ref dg, vi ((nd : Nat) : Int), vi pl, vi 0, vi 0, .ref rw, vi ((mn : Nat) : Int), vi fr, vj fo, .ref bt, .ref wz, .ref lw, .ref hg, vi ((ls : Nat) : Int), vi lp, vi ((hs : Nat) : Int), vi hq], ai cI dg 800 d]) fl_Mod_70 fs_4_6 0 rfl rfl rfl (Nat.le_of_ble_eq_true rfl) rfl dq_Mod_cut_7 ?_
  refine qv_lload_n C rfl dq_Mod_cut_10 ?_
  refine qv_aload_n C rfl dq_Mod_cut_11 ?_
  refine qv_get C fl_Mod_61 0 rfl rfl dq_Mod_cut_12 ?_
  refine qv_i2l C (by omega) dq_Mod_cut_15 ?_
  refine qv_lclt C (by omega) (by omega) dq_Mod_cut_16 (tgt := 21) (by decide) dq_Mod_cut_17 (fun h16 => ?_) (fun h16 => ?_)
  · skip
    refine qv_lload_n C rfl dq_Mod_cut_21 ?_
    refine qv_lconst C (z := 0) (by decide) dq_Mod_cut_22 ?_
    refine qv_lcge C (by omega) (by omega) dq_Mod_cut_23 (tgt := 32) (by decide) dq_Mod_cut_24 (fun h23 => ?_) (fun h23 => ?_)
    · skip
      obtain ⟨n, hzn⟩ : ∃ n : Nat, z = (n : Int) := ⟨z.toNat, by omega⟩
      rw [show vj z = vj ((n : Nat) : Int) by rw [hzn]]
      have h9 := hd n
      have h8 := hd (n - 1)
      refine qv_lload_n C rfl dq_Mod_cut_32 ?_
      refine qv_l2i C dq_Mod_cut_33 ?_
      refine qv_istore_n C (lv' := [(3, vi ((n : Nat) : Int)), (0, .ref y), (1, vj ((n : Nat) : Int))]) (by decide) rfl dq_Mod_cut_34 ?_
      refine qv_aload_n C rfl dq_Mod_cut_35 ?_
      refine qv_get C fl_Mod_9 0 rfl rfl dq_Mod_cut_36 ?_
      refine qv_iload_n C rfl dq_Mod_cut_39 ?_
      refine qv_iald C 1 n rfl (by omega) (by omega) (by omega) dq_Mod_cut_40 ?_
      refine qv_iconst C dq_Mod_cut_41 ?_
      refine qv_icgt C (by omega) (by omega) (tgt := 82) (by decide) dq_Mod_cut_42 (fun h42 => ?_) (fun h42 => ?_)
      · skip
        refine qv_iconst C dq_Mod_cut_82 ?_
        refine qv_goto C (tgt := 87) (by decide) dq_Mod_cut_83 ?_
        refine qv_istore C (lv' := [(4, vi 1), (3, vi ((n : Nat) : Int)), (0, .ref y), (1, vj ((n : Nat) : Int))]) (by decide) rfl dq_Mod_cut_87 ?_
        refine qv_aload_n C rfl dq_Mod_cut_89 ?_
        refine qv_iload_n C rfl dq_Mod_cut_90 ?_
        refine qv_put C (ws' := [oc y 4 [vi er, vi (b2 mi), .ref dg, vi ((n : Nat) : Int), vi pl, vi 0, vi 0, .ref rw, vi ((mn : Nat) : Int), vi fr, vj fo, .ref bt, .ref wz, .ref lw, .ref hg, vi ((ls : Nat) : Int), vi lp, vi ((hs : Nat) : Int), vi hq], ai cI dg 800 d]) fl_Mod_61 fs_4_3 0 rfl rfl rfl (Nat.le_of_ble_eq_true rfl) rfl dq_Mod_cut_91 ?_
        refine qv_iload C rfl dq_Mod_cut_94 ?_
        refine qv_ifeq C (by omega) (tgt := 182) (by decide) dq_Mod_cut_96 (fun h96 => ?_) (fun h96 => ?_)
        · exfalso; omega
        · skip
          refine qv_lv [2] (lv' := [(0, .ref y)]) rfl ?_
          exact hup n hzn (by omega) (by unfold gu; first | (rw [if_neg (by omega)]; simp <;> omega) | (rw [if_pos (by omega)]; simp <;> omega))
      · skip
        refine qv_aload_n C rfl dq_Mod_cut_45 ?_
        refine qv_get C fl_Mod_9 0 rfl rfl dq_Mod_cut_46 ?_
        refine qv_iload_n C rfl dq_Mod_cut_49 ?_
        refine qv_iald C 1 n rfl (by omega) (by omega) (by omega) dq_Mod_cut_50 ?_
        refine qv_iconst C dq_Mod_cut_51 ?_
        refine qv_icne C (by omega) (by omega) (tgt := 86) (by decide) dq_Mod_cut_52 (fun h52 => ?_) (fun h52 => ?_)
        · skip
          refine qv_iconst C dq_Mod_cut_86 ?_
          refine qv_istore C (lv' := [(4, vi 0), (3, vi ((n : Nat) : Int)), (0, .ref y), (1, vj ((n : Nat) : Int))]) (by decide) rfl dq_Mod_cut_87 ?_
          refine qv_aload_n C rfl dq_Mod_cut_89 ?_
          refine qv_iload_n C rfl dq_Mod_cut_90 ?_
          refine qv_put C (ws' := [oc y 4 [vi er, vi (b2 mi), .ref dg, vi ((n : Nat) : Int), vi pl, vi 0, vi 0, .ref rw, vi ((mn : Nat) : Int), vi fr, vj fo, .ref bt, .ref wz, .ref lw, .ref hg, vi ((ls : Nat) : Int), vi lp, vi ((hs : Nat) : Int), vi hq], ai cI dg 800 d]) fl_Mod_61 fs_4_3 0 rfl rfl rfl (Nat.le_of_ble_eq_true rfl) rfl dq_Mod_cut_91 ?_
          refine qv_iload C rfl dq_Mod_cut_94 ?_
          refine qv_ifeq C (by omega) (tgt := 182) (by decide) dq_Mod_cut_96 (fun h96 => ?_) (fun h96 => ?_)
          · skip
            refine qv_lv [2] (lv' := [(0, .ref y)]) rfl ?_
            exact hdn n hzn (by omega) (by unfold gu; first | (rw [if_neg (by omega)]; simp <;> omega) | (rw [if_pos (by omega)]; simp <;> omega))
          · exfalso; omega
        · skip
          refine qv_aload_n C rfl dq_Mod_cut_55 ?_
          refine qv_get C fl_Mod_61 0 rfl rfl dq_Mod_cut_56 ?_
          refine qv_iload_n C rfl dq_Mod_cut_59 ?_
          refine qv_iconst C dq_Mod_cut_60 ?_
          refine qv_iadd C (r := (((n + 1) : Nat) : Int)) (by omega) dq_Mod_cut_61 ?_
          refine qv_icgt C (by omega) (by omega) (tgt := 82) (by decide) dq_Mod_cut_62 (fun h62 => ?_) (fun h62 => ?_)
          · skip
            refine qv_iconst C dq_Mod_cut_82 ?_
            refine qv_goto C (tgt := 87) (by decide) dq_Mod_cut_83 ?_
            refine qv_istore C (lv' := [(4, vi 1), (3, vi ((n : Nat) : Int)), (0, .ref y), (1, vj ((n : Nat) : Int))]) (by decide) rfl dq_Mod_cut_87 ?_
            refine qv_aload_n C rfl dq_Mod_cut_89 ?_
            refine qv_iload_n C rfl dq_Mod_cut_90 ?_
            refine qv_put C (ws' := [oc y 4 [vi er, vi (b2 mi), .ref dg, vi ((n : Nat) : Int), vi pl, vi 0, vi 0, .ref rw, vi ((mn : Nat) : Int), vi fr, vj fo, .ref bt, .ref wz, .ref lw, .ref hg, vi ((ls : Nat) : Int), vi lp, vi ((hs : Nat) : Int), vi hq], ai cI dg 800 d]) fl_Mod_61 fs_4_3 0 rfl rfl rfl (Nat.le_of_ble_eq_true rfl) rfl dq_Mod_cut_91 ?_
            refine qv_iload C rfl dq_Mod_cut_94 ?_
            refine qv_ifeq C (by omega) (tgt := 182) (by decide) dq_Mod_cut_96 (fun h96 => ?_) (fun h96 => ?_)
            · exfalso; omega
            · skip
              refine qv_lv [2] (lv' := [(0, .ref y)]) rfl ?_
              exact hup n hzn (by omega) (by unfold gu; first | (rw [if_neg (by omega)]; simp <;> omega) | (rw [if_pos (by omega)]; simp <;> omega))
          · skip
            refine qv_iload_n C rfl dq_Mod_cut_65 ?_
            refine qv_ifle C (by omega) (tgt := 86) (by decide) dq_Mod_cut_66 (fun h66 => ?_) (fun h66 => ?_)
            · skip
              refine qv_iconst C dq_Mod_cut_86 ?_
              refine qv_istore C (lv' := [(4, vi 0), (3, vi ((n : Nat) : Int)), (0, .ref y), (1, vj ((n : Nat) : Int))]) (by decide) rfl dq_Mod_cut_87 ?_
              refine qv_aload_n C rfl dq_Mod_cut_89 ?_
              refine qv_iload_n C rfl dq_Mod_cut_90 ?_
              refine qv_put C (ws' := [oc y 4 [vi er, vi (b2 mi), .ref dg, vi ((n : Nat) : Int), vi pl, vi 0, vi 0, .ref rw, vi ((mn : Nat) : Int), vi fr, vj fo, .ref bt, .ref wz, .ref lw, .ref hg, vi ((ls : Nat) : Int), vi lp, vi ((hs : Nat) : Int), vi hq], ai cI dg 800 d]) fl_Mod_61 fs_4_3 0 rfl rfl rfl (Nat.le_of_ble_eq_true rfl) rfl dq_Mod_cut_91 ?_
              refine qv_iload C rfl dq_Mod_cut_94 ?_
              refine qv_ifeq C (by omega) (tgt := 182) (by decide) dq_Mod_cut_96 (fun h96 => ?_) (fun h96 => ?_)
              · skip
                refine qv_lv [2] (lv' := [(0, .ref y)]) rfl ?_
                exact hdn n hzn (by omega) (by unfold gu; first | (rw [if_neg (by omega)]; simp <;> omega) | (rw [if_pos (by omega)]; simp <;> omega))
              · exfalso; omega
            · skip
              refine qv_aload_n C rfl dq_Mod_cut_69 ?_
              refine qv_get C fl_Mod_9 0 rfl rfl dq_Mod_cut_70 ?_
              refine qv_iload_n C rfl dq_Mod_cut_73 ?_
              refine qv_iconst C dq_Mod_cut_74 ?_
              refine qv_isub C (r := (((n - 1) : Nat) : Int)) (by omega) dq_Mod_cut_75 ?_
              refine qv_iald C 1 (n - 1) rfl (by omega) (by omega) (by omega) dq_Mod_cut_76 ?_
              refine qv_iconst C dq_Mod_cut_77 ?_
              refine qv_irem C (r := (((d (n - 1) % 2) : Nat) : Int)) (by omega) (by omega) (by omega) (by omega) (by omega) dq_Mod_cut_78 ?_
              refine qv_ifeq C (by omega) (tgt := 86) (by decide) dq_Mod_cut_79 (fun h79 => ?_) (fun h79 => ?_)
              · skip
                refine qv_iconst C dq_Mod_cut_86 ?_
                refine qv_istore C (lv' := [(4, vi 0), (3, vi ((n : Nat) : Int)), (0, .ref y), (1, vj ((n : Nat) : Int))]) (by decide) rfl dq_Mod_cut_87 ?_
                refine qv_aload_n C rfl dq_Mod_cut_89 ?_
                refine qv_iload_n C rfl dq_Mod_cut_90 ?_
                refine qv_put C (ws' := [oc y 4 [vi er, vi (b2 mi), .ref dg, vi ((n : Nat) : Int), vi pl, vi 0, vi 0, .ref rw, vi ((mn : Nat) : Int), vi fr, vj fo, .ref bt, .ref wz, .ref lw, .ref hg, vi ((ls : Nat) : Int), vi lp, vi ((hs : Nat) : Int), vi hq], ai cI dg 800 d]) fl_Mod_61 fs_4_3 0 rfl rfl rfl (Nat.le_of_ble_eq_true rfl) rfl dq_Mod_cut_91 ?_
                refine qv_iload C rfl dq_Mod_cut_94 ?_
                refine qv_ifeq C (by omega) (tgt := 182) (by decide) dq_Mod_cut_96 (fun h96 => ?_) (fun h96 => ?_)
                · skip
                  refine qv_lv [2] (lv' := [(0, .ref y)]) rfl ?_
                  exact hdn n hzn (by omega) (by unfold gu; first | (rw [if_neg (by omega)]; simp <;> omega) | (rw [if_pos (by omega)]; simp <;> omega))
                · exfalso; omega
              · skip
                refine qv_iconst C dq_Mod_cut_82 ?_
                refine qv_goto C (tgt := 87) (by decide) dq_Mod_cut_83 ?_
                refine qv_istore C (lv' := [(4, vi 1), (3, vi ((n : Nat) : Int)), (0, .ref y), (1, vj ((n : Nat) : Int))]) (by decide) rfl dq_Mod_cut_87 ?_
                refine qv_aload_n C rfl dq_Mod_cut_89 ?_
                refine qv_iload_n C rfl dq_Mod_cut_90 ?_
                refine qv_put C (ws' := [oc y 4 [vi er, vi (b2 mi), .ref dg, vi ((n : Nat) : Int), vi pl, vi 0, vi 0, .ref rw, vi ((mn : Nat) : Int), vi fr, vj fo, .ref bt, .ref wz, .ref lw, .ref hg, vi ((ls : Nat) : Int), vi lp, vi ((hs : Nat) : Int), vi hq], ai cI dg 800 d]) fl_Mod_61 fs_4_3 0 rfl rfl rfl (Nat.le_of_ble_eq_true rfl) rfl dq_Mod_cut_91 ?_
                refine qv_iload C rfl dq_Mod_cut_94 ?_
                refine qv_ifeq C (by omega) (tgt := 182) (by decide) dq_Mod_cut_96 (fun h96 => ?_) (fun h96 => ?_)
                · exfalso; omega
                · skip
                  refine qv_lv [2] (lv' := [(0, .ref y)]) rfl ?_
                  exact hup n hzn (by omega) (by unfold gu; first | (rw [if_neg (by omega)]; simp <;> omega) | (rw [if_pos (by omega)]; simp <;> omega))
    · skip
      refine qv_aload_n C rfl dq_Mod_cut_27 ?_
      refine qc_vV (wr := [ai cI dg 800 d]) (st := []) C cl_Mod_83 cd_Mod_nothing (c_Mod_nothing cI cJ y dg rw bt wz lw hg er mi nd pl 0 0 mn fr fo ls lp hs hq) (Xok_t K) Xbl_t [0] [1] rfl rfl (by decide) (by decide) (by decide) 0 rfl rfl rfl rfl rfl (Nat.le_of_ble_eq_true rfl) (by decide) (by decide) dq_Mod_cut_28 (fun u hu => ?_)
      obtain rfl := hu
      show V K 5 [ai cI dg 800 d, oc y 4 [vi er, vi (b2 mi), .ref dg, vi 0, vi 0, vi 0, vi 0, .ref rw, vi ((mn : Nat) : Int), vi fr, vj fo, .ref bt, .ref wz, .ref lw, .ref hg, vi ((ls : Nat) : Int), vi lp, vi ((hs : Nat) : Int), vi hq]] 0 0 31 [(0, .ref y), (1, vj z)] []
      refine qv_ws [1, 0] (ws' := [oc y 4 [vi er, vi (b2 mi), .ref dg, vi 0, vi 0, vi 0, vi 0, .ref rw, vi ((mn : Nat) : Int), vi fr, vj fo, .ref bt, .ref wz, .ref lw, .ref hg, vi ((ls : Nat) : Int), vi lp, vi ((hs : Nat) : Int), vi hq], ai cI dg 800 d]) (by decide) rfl ?_
      refine qv_vret C hR ?_ dq_Mod_cut_31 (by decide) (by decide)
      show _ = [mo _ _ _ _ _ _ _ _ _ _ _ _ _ _ _ _ _ _ _ _, _]
      rw [cL_neg (by omega), cP_neg (by omega), cF_neg (by omega)]; rfl
  · skip
    refine qv_vret C hR ?_ dq_Mod_cut_20 (by decide) (by decide)
    show _ = [mo _ _ _ _ _ _ _ _ _ _ _ _ _ _ _ _ _ _ _ _, _]
    rw [cL_ge (by omega), cP_ge (by omega), cF_ge (by omega)]; rfl
end
