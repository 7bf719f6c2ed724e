section
-- ===== PART A: goes FIRST, ahead of the names: the tables' words, and 'selects' of the private methods out of them =====
/-- a private method of a class that the tables say can be made, by its rows of tables_1 -/
def lw_okq (q : MethodName × Nat) : Prop := (q.1.cls ≠ "java/lang/invoke/MethodHandle" ∧ q.1.cls ≠ "java/lang/invoke/VarHandle") ∧ Cond.instantiable q.1.cls q.2 ∈ tables_1 ∧ Cond.privateMethod q.1 ∈ tables_1 ∧ Cond.instanceMethod q.1 ∈ tables_1
theorem lw_p0 : lw_okq (⟨"java/lang/Throwable", "fillInStackTrace", "(I)Ljava/lang/Throwable;"⟩, 6) := ⟨⟨by decide +kernel, by decide +kernel⟩, List.mem_of_getElem? (i := 158) (by decide +kernel), List.mem_of_getElem? (i := 156) (by decide +kernel), List.mem_of_getElem? (i := 157) (by decide +kernel)⟩
theorem lw_p1 : lw_okq (⟨"DecimalTruth", "spell", "(JILDecimalTruth$Decimal;)V"⟩, 9) := ⟨⟨by decide +kernel, by decide +kernel⟩, List.mem_of_getElem? (i := 18) (by decide +kernel), List.mem_of_getElem? (i := 198) (by decide +kernel), List.mem_of_getElem? (i := 199) (by decide +kernel)⟩
theorem lw_p2 : lw_okq (⟨"DecimalTruth$Decimal", "readGroup", "(J)V"⟩, 3) := ⟨⟨by decide +kernel, by decide +kernel⟩, List.mem_of_getElem? (i := 26) (by decide +kernel), List.mem_of_getElem? (i := 230) (by decide +kernel), List.mem_of_getElem? (i := 231) (by decide +kernel)⟩
theorem lw_p3 : lw_okq (⟨"DecimalTruth$Decimal", "dropZerosAtEnd", "()V"⟩, 3) := ⟨⟨by decide +kernel, by decide +kernel⟩, List.mem_of_getElem? (i := 26) (by decide +kernel), List.mem_of_getElem? (i := 240) (by decide +kernel), List.mem_of_getElem? (i := 241) (by decide +kernel)⟩
theorem lw_p4 : lw_okq (⟨"DecimalTruth", "forgetWhatCame", "()V"⟩, 9) := ⟨⟨by decide +kernel, by decide +kernel⟩, List.mem_of_getElem? (i := 18) (by decide +kernel), List.mem_of_getElem? (i := 244) (by decide +kernel), List.mem_of_getElem? (i := 245) (by decide +kernel)⟩
theorem lw_p5 : lw_okq (⟨"DecimalTruth", "hasNoRoomFor", "(I)Z"⟩, 9) := ⟨⟨by decide +kernel, by decide +kernel⟩, List.mem_of_getElem? (i := 18) (by decide +kernel), List.mem_of_getElem? (i := 257) (by decide +kernel), List.mem_of_getElem? (i := 258) (by decide +kernel)⟩
theorem lw_p6 : lw_okq (⟨"DecimalTruth", "bringDigit", "(I)V"⟩, 9) := ⟨⟨by decide +kernel, by decide +kernel⟩, List.mem_of_getElem? (i := 18) (by decide +kernel), List.mem_of_getElem? (i := 277) (by decide +kernel), List.mem_of_getElem? (i := 278) (by decide +kernel)⟩
theorem lw_p7 : lw_okq (⟨"DecimalTruth", "roundToDigits", "(I)V"⟩, 9) := ⟨⟨by decide +kernel, by decide +kernel⟩, List.mem_of_getElem? (i := 18) (by decide +kernel), List.mem_of_getElem? (i := 302) (by decide +kernel), List.mem_of_getElem? (i := 303) (by decide +kernel)⟩
theorem lw_p8 : lw_okq (⟨"DecimalTruth$Decimal", "goUp", "()V"⟩, 3) := ⟨⟨by decide +kernel, by decide +kernel⟩, List.mem_of_getElem? (i := 26) (by decide +kernel), List.mem_of_getElem? (i := 319) (by decide +kernel), List.mem_of_getElem? (i := 320) (by decide +kernel)⟩
theorem lw_p9 : lw_okq (⟨"DecimalTruth", "nearestSize", "()J"⟩, 9) := ⟨⟨by decide +kernel, by decide +kernel⟩, List.mem_of_getElem? (i := 18) (by decide +kernel), List.mem_of_getElem? (i := 339) (by decide +kernel), List.mem_of_getElem? (i := 340) (by decide +kernel)⟩
theorem lw_p10 : lw_okq (⟨"DecimalTruth$Words", "firstThatIsNotZero", "(I)I"⟩, 2) := ⟨⟨by decide +kernel, by decide +kernel⟩, List.mem_of_getElem? (i := 69) (by decide +kernel), List.mem_of_getElem? (i := 355) (by decide +kernel), List.mem_of_getElem? (i := 356) (by decide +kernel)⟩
theorem lw_p11 : lw_okq (⟨"DecimalTruth$Words", "isMoreFrom", "(I)Z"⟩, 2) := ⟨⟨by decide +kernel, by decide +kernel⟩, List.mem_of_getElem? (i := 69) (by decide +kernel), List.mem_of_getElem? (i := 376) (by decide +kernel), List.mem_of_getElem? (i := 377) (by decide +kernel)⟩
theorem lw_p12 : lw_okq (⟨"DecimalTruth", "leastDigitsFor", "(J)I"⟩, 9) := ⟨⟨by decide +kernel, by decide +kernel⟩, List.mem_of_getElem? (i := 18) (by decide +kernel), List.mem_of_getElem? (i := 408) (by decide +kernel), List.mem_of_getElem? (i := 409) (by decide +kernel)⟩
theorem lw_p13 : lw_okq (⟨"DecimalTruth", "spellMiddleAbove", "(JLDecimalTruth$Decimal;)V"⟩, 9) := ⟨⟨by decide +kernel, by decide +kernel⟩, List.mem_of_getElem? (i := 18) (by decide +kernel), List.mem_of_getElem? (i := 412) (by decide +kernel), List.mem_of_getElem? (i := 413) (by decide +kernel)⟩
theorem lw_p14 : lw_okq (⟨"DecimalTruth", "holdsWith", "(IZ)Z"⟩, 9) := ⟨⟨by decide +kernel, by decide +kernel⟩, List.mem_of_getElem? (i := 18) (by decide +kernel), List.mem_of_getElem? (i := 417) (by decide +kernel), List.mem_of_getElem? (i := 418) (by decide +kernel)⟩
theorem lw_p15 : lw_okq (⟨"DecimalTruthModel", "fails", "(ZI)Z"⟩, 19) := ⟨⟨by decide +kernel, by decide +kernel⟩, List.mem_of_getElem? (i := 454) (by decide +kernel), List.mem_of_getElem? (i := 526) (by decide +kernel), List.mem_of_getElem? (i := 527) (by decide +kernel)⟩
def lw_privs_1 : List (MethodName × Nat) := [(⟨"java/lang/Throwable", "fillInStackTrace", "(I)Ljava/lang/Throwable;"⟩, 6), (⟨"DecimalTruth", "spell", "(JILDecimalTruth$Decimal;)V"⟩, 9), (⟨"DecimalTruth$Decimal", "readGroup", "(J)V"⟩, 3), (⟨"DecimalTruth$Decimal", "dropZerosAtEnd", "()V"⟩, 3), (⟨"DecimalTruth", "forgetWhatCame", "()V"⟩, 9), (⟨"DecimalTruth", "hasNoRoomFor", "(I)Z"⟩, 9), (⟨"DecimalTruth", "bringDigit", "(I)V"⟩, 9), (⟨"DecimalTruth", "roundToDigits", "(I)V"⟩, 9), (⟨"DecimalTruth$Decimal", "goUp", "()V"⟩, 3), (⟨"DecimalTruth", "nearestSize", "()J"⟩, 9), (⟨"DecimalTruth$Words", "firstThatIsNotZero", "(I)I"⟩, 2), (⟨"DecimalTruth$Words", "isMoreFrom", "(I)Z"⟩, 2), (⟨"DecimalTruth", "leastDigitsFor", "(J)I"⟩, 9), (⟨"DecimalTruth", "spellMiddleAbove", "(JLDecimalTruth$Decimal;)V"⟩, 9), (⟨"DecimalTruth", "holdsWith", "(IZ)Z"⟩, 9), (⟨"DecimalTruthModel", "fails", "(ZI)Z"⟩, 19)]
theorem lw_r1 : ∀ q ∈ lw_privs_1, lw_okq q := List.forall_mem_cons.mpr ⟨lw_p0, List.forall_mem_cons.mpr ⟨lw_p1, List.forall_mem_cons.mpr ⟨lw_p2, List.forall_mem_cons.mpr ⟨lw_p3, List.forall_mem_cons.mpr ⟨lw_p4, List.forall_mem_cons.mpr ⟨lw_p5, List.forall_mem_cons.mpr ⟨lw_p6, List.forall_mem_cons.mpr ⟨lw_p7, List.forall_mem_cons.mpr ⟨lw_p8, List.forall_mem_cons.mpr ⟨lw_p9, List.forall_mem_cons.mpr ⟨lw_p10, List.forall_mem_cons.mpr ⟨lw_p11, List.forall_mem_cons.mpr ⟨lw_p12, List.forall_mem_cons.mpr ⟨lw_p13, List.forall_mem_cons.mpr ⟨lw_p14, List.forall_mem_cons.mpr ⟨lw_p15, fun _ h => absurd h List.not_mem_nil⟩⟩⟩⟩⟩⟩⟩⟩⟩⟩⟩⟩⟩⟩⟩⟩
theorem lw_p16 : lw_okq (⟨"DecimalTruthModel", "twice", "()V"⟩, 19) := ⟨⟨by decide +kernel, by decide +kernel⟩, List.mem_of_getElem? (i := 454) (by decide +kernel), List.mem_of_getElem? (i := 533) (by decide +kernel), List.mem_of_getElem? (i := 534) (by decide +kernel)⟩
theorem lw_p17 : lw_okq (⟨"DecimalTruthModel", "half", "()V"⟩, 19) := ⟨⟨by decide +kernel, by decide +kernel⟩, List.mem_of_getElem? (i := 454) (by decide +kernel), List.mem_of_getElem? (i := 537) (by decide +kernel), List.mem_of_getElem? (i := 538) (by decide +kernel)⟩
theorem lw_p18 : lw_okq (⟨"DecimalTruthModel", "keep", "()V"⟩, 19) := ⟨⟨by decide +kernel, by decide +kernel⟩, List.mem_of_getElem? (i := 454) (by decide +kernel), List.mem_of_getElem? (i := 541) (by decide +kernel), List.mem_of_getElem? (i := 542) (by decide +kernel)⟩
theorem lw_p19 : lw_okq (⟨"DecimalTruthModel", "cut", "(J)V"⟩, 19) := ⟨⟨by decide +kernel, by decide +kernel⟩, List.mem_of_getElem? (i := 454) (by decide +kernel), List.mem_of_getElem? (i := 565) (by decide +kernel), List.mem_of_getElem? (i := 566) (by decide +kernel)⟩
theorem lw_p20 : lw_okq (⟨"DecimalTruthModel", "nothing", "()V"⟩, 19) := ⟨⟨by decide +kernel, by decide +kernel⟩, List.mem_of_getElem? (i := 454) (by decide +kernel), List.mem_of_getElem? (i := 569) (by decide +kernel), List.mem_of_getElem? (i := 570) (by decide +kernel)⟩
theorem lw_p21 : lw_okq (⟨"DecimalTruthModel", "finds", "(I)Z"⟩, 19) := ⟨⟨by decide +kernel, by decide +kernel⟩, List.mem_of_getElem? (i := 454) (by decide +kernel), List.mem_of_getElem? (i := 582) (by decide +kernel), List.mem_of_getElem? (i := 583) (by decide +kernel)⟩
theorem lw_p22 : lw_okq (⟨"DecimalTruthModel", "isNothing", "(II)Z"⟩, 19) := ⟨⟨by decide +kernel, by decide +kernel⟩, List.mem_of_getElem? (i := 454) (by decide +kernel), List.mem_of_getElem? (i := 586) (by decide +kernel), List.mem_of_getElem? (i := 587) (by decide +kernel)⟩
theorem lw_p23 : lw_okq (⟨"DecimalTruthModel", "put", "(JIIZ)Z"⟩, 19) := ⟨⟨by decide +kernel, by decide +kernel⟩, List.mem_of_getElem? (i := 454) (by decide +kernel), List.mem_of_getElem? (i := 590) (by decide +kernel), List.mem_of_getElem? (i := 591) (by decide +kernel)⟩
theorem lw_p24 : lw_okq (⟨"DecimalTruthModel", "exactly", "(JI)V"⟩, 19) := ⟨⟨by decide +kernel, by decide +kernel⟩, List.mem_of_getElem? (i := 454) (by decide +kernel), List.mem_of_getElem? (i := 601) (by decide +kernel), List.mem_of_getElem? (i := 602) (by decide +kernel)⟩
theorem lw_p25 : lw_okq (⟨"DecimalTruthModel", "compare", "([III)I"⟩, 19) := ⟨⟨by decide +kernel, by decide +kernel⟩, List.mem_of_getElem? (i := 454) (by decide +kernel), List.mem_of_getElem? (i := 606) (by decide +kernel), List.mem_of_getElem? (i := 607) (by decide +kernel)⟩
def lw_privs_2 : List (MethodName × Nat) := [(⟨"DecimalTruthModel", "twice", "()V"⟩, 19), (⟨"DecimalTruthModel", "half", "()V"⟩, 19), (⟨"DecimalTruthModel", "keep", "()V"⟩, 19), (⟨"DecimalTruthModel", "cut", "(J)V"⟩, 19), (⟨"DecimalTruthModel", "nothing", "()V"⟩, 19), (⟨"DecimalTruthModel", "finds", "(I)Z"⟩, 19), (⟨"DecimalTruthModel", "isNothing", "(II)Z"⟩, 19), (⟨"DecimalTruthModel", "put", "(JIIZ)Z"⟩, 19), (⟨"DecimalTruthModel", "exactly", "(JI)V"⟩, 19), (⟨"DecimalTruthModel", "compare", "([III)I"⟩, 19)]
theorem lw_r2 : ∀ q ∈ lw_privs_2, lw_okq q := List.forall_mem_cons.mpr ⟨lw_p16, List.forall_mem_cons.mpr ⟨lw_p17, List.forall_mem_cons.mpr ⟨lw_p18, List.forall_mem_cons.mpr ⟨lw_p19, List.forall_mem_cons.mpr ⟨lw_p20, List.forall_mem_cons.mpr ⟨lw_p21, List.forall_mem_cons.mpr ⟨lw_p22, List.forall_mem_cons.mpr ⟨lw_p23, List.forall_mem_cons.mpr ⟨lw_p24, List.forall_mem_cons.mpr ⟨lw_p25, fun _ h => absurd h List.not_mem_nil⟩⟩⟩⟩⟩⟩⟩⟩⟩⟩
def lw_privs : List (MethodName × Nat) := lw_privs_1 ++ (lw_privs_2)
def lw_tbl : List Cond := k2_sels lw_privs ++ tables_1
theorem lw_privs_ok : ∀ q ∈ lw_privs, lw_okq q := by
  show ∀ q ∈ lw_privs_1 ++ (lw_privs_2), lw_okq q
  exact List.forall_mem_append.mpr ⟨lw_r1, lw_r2⟩
-- ===== end of PART A; then your names; then what follows =====
end
section
/-! names of the classes, fields, methods; the tables' words in two lists -/
def isN : Cond → Bool
  | .fieldLinkNest _ _ _ _ _ _ => true
  | .methodLinkNest _ _ _ _ => true
  | _ => false
def al : List Cond := lw_tbl.filter goodWord
def nl : List Cond := lw_tbl.filter isN
theorem wl {i : Nat} {w : Cond} (h : tables_1[i]? = some w) (hg : goodWord w = true) : w ∈ al := List.mem_filter.mpr ⟨List.mem_append_right _ (List.mem_of_getElem? h), hg⟩
theorem wn {i : Nat} {w : Cond} (h : tables_1[i]? = some w) (hg : isN w = true) : w ∈ nl := List.mem_filter.mpr ⟨List.mem_append_right _ (List.mem_of_getElem? h), hg⟩
theorem wp {i : Nat} {q : MethodName × Nat} (h : lw_privs[i]? = some q) : Cond.selects q.1.cls q.1 q.1 ∈ al := List.mem_filter.mpr ⟨List.mem_append_left _ (List.mem_map.mpr ⟨q, List.mem_of_getElem? h, rfl⟩), rfl⟩
abbrev RD : String := "DecimalTruth$Decimal"
abbrev RG : String := "DecimalTruth$Groups"
abbrev RW : String := "DecimalTruth$Words"
abbrev RT : String := "DecimalTruth"
abbrev RM : String := "DecimalTruthModel"
abbrev RL : String := "DecimalTruthLaw"
def TF0 : u_T := fun k => match k with
  | 0 => ("DecimalTruth$Decimal", "digits", "[I", true)
  | 1 => ("DecimalTruth$Decimal", "length", "I", false)
  | _ => ("DecimalTruth$Decimal", "place", "I", false)
def ty0_ : Nat → FieldType := fun k => match k with
  | 0 => .array .int
  | 1 => .int
  | _ => .int
theorem tn_0 : ∀ a, a < 3 → ∀ b, b < 3 → a ≠ b → (TF0 a).2.1 ≠ (TF0 b).2.1 := by decide +kernel
theorem tt_0 : ∀ k, k < 3 → parseFieldDescriptor (TF0 k).2.2.1 = some (ty0_ k) := by decide +kernel
theorem tu_0 : ∀ w ∈ u_ws "DecimalTruth$Decimal" TF0 3, w ∈ al := by
  have h : (u_ws "DecimalTruth$Decimal" TF0 3).all (fun w => decide (w ∈ tables_1) && goodWord w) = true := by decide +kernel
  intro w hw
  have h2 := List.all_eq_true.mp h w hw
  rw [Bool.and_eq_true, decide_eq_true_iff] at h2
  exact List.mem_filter.mpr ⟨List.mem_append_right _ h2.1, h2.2⟩
def TF1 : u_T := fun k => match k with
  | 0 => ("DecimalTruth$Groups", "rows", "[J", true)
  | 1 => ("DecimalTruth$Groups", "first", "I", false)
  | _ => ("DecimalTruth$Groups", "end", "I", false)
def ty1_ : Nat → FieldType := fun k => match k with
  | 0 => .array .long
  | 1 => .int
  | _ => .int
theorem tn_1 : ∀ a, a < 3 → ∀ b, b < 3 → a ≠ b → (TF1 a).2.1 ≠ (TF1 b).2.1 := by decide +kernel
theorem tt_1 : ∀ k, k < 3 → parseFieldDescriptor (TF1 k).2.2.1 = some (ty1_ k) := by decide +kernel
theorem tu_1 : ∀ w ∈ u_ws "DecimalTruth$Groups" TF1 3, w ∈ al := by
  have h : (u_ws "DecimalTruth$Groups" TF1 3).all (fun w => decide (w ∈ tables_1) && goodWord w) = true := by decide +kernel
  intro w hw
  have h2 := List.all_eq_true.mp h w hw
  rw [Bool.and_eq_true, decide_eq_true_iff] at h2
  exact List.mem_filter.mpr ⟨List.mem_append_right _ h2.1, h2.2⟩
def TF2 : u_T := fun k => match k with
  | 0 => ("DecimalTruth$Words", "rows", "[J", true)
  | _ => ("DecimalTruth$Words", "hasMore", "Z", false)
def ty2_ : Nat → FieldType := fun k => match k with
  | 0 => .array .long
  | _ => .boolean
theorem tn_2 : ∀ a, a < 2 → ∀ b, b < 2 → a ≠ b → (TF2 a).2.1 ≠ (TF2 b).2.1 := by decide +kernel
theorem tt_2 : ∀ k, k < 2 → parseFieldDescriptor (TF2 k).2.2.1 = some (ty2_ k) := by decide +kernel
theorem tu_2 : ∀ w ∈ u_ws "DecimalTruth$Words" TF2 2, w ∈ al := by
  have h : (u_ws "DecimalTruth$Words" TF2 2).all (fun w => decide (w ∈ tables_1) && goodWord w) = true := by decide +kernel
  intro w hw
  have h2 := List.all_eq_true.mp h w hw
  rw [Bool.and_eq_true, decide_eq_true_iff] at h2
  exact List.mem_filter.mpr ⟨List.mem_append_right _ h2.1, h2.2⟩
def TF3 : u_T := fun k => match k with
  | 0 => ("DecimalTruth", "kept", "LDecimalTruth$Decimal;", true)
  | 1 => ("DecimalTruth", "minus", "Z", false)
  | 2 => ("DecimalTruth", "zerosInMind", "I", false)
  | 3 => ("DecimalTruth", "point", "I", false)
  | 4 => ("DecimalTruth", "groups", "LDecimalTruth$Groups;", true)
  | 5 => ("DecimalTruth", "words", "LDecimalTruth$Words;", true)
  | 6 => ("DecimalTruth", "trial", "LDecimalTruth$Decimal;", true)
  | 7 => ("DecimalTruth", "low", "LDecimalTruth$Decimal;", true)
  | _ => ("DecimalTruth", "high", "LDecimalTruth$Decimal;", true)
def ty3_ : Nat → FieldType := fun k => match k with
  | 0 => .object "DecimalTruth$Decimal"
  | 1 => .boolean
  | 2 => .int
  | 3 => .int
  | 4 => .object "DecimalTruth$Groups"
  | 5 => .object "DecimalTruth$Words"
  | 6 => .object "DecimalTruth$Decimal"
  | 7 => .object "DecimalTruth$Decimal"
  | _ => .object "DecimalTruth$Decimal"
theorem tn_3 : ∀ a, a < 9 → ∀ b, b < 9 → a ≠ b → (TF3 a).2.1 ≠ (TF3 b).2.1 := by decide +kernel
theorem tt_3 : ∀ k, k < 9 → parseFieldDescriptor (TF3 k).2.2.1 = some (ty3_ k) := by decide +kernel
theorem tu_3 : ∀ w ∈ u_ws "DecimalTruth" TF3 9, w ∈ al := by
  have h : (u_ws "DecimalTruth" TF3 9).all (fun w => decide (w ∈ tables_1) && goodWord w) = true := by decide +kernel
  intro w hw
  have h2 := List.all_eq_true.mp h w hw
  rw [Bool.and_eq_true, decide_eq_true_iff] at h2
  exact List.mem_filter.mpr ⟨List.mem_append_right _ h2.1, h2.2⟩
def TF4 : u_T := fun k => match k with
  | 0 => ("DecimalTruthModel", "err", "I", false)
  | 1 => ("DecimalTruthModel", "minus", "Z", false)
  | 2 => ("DecimalTruthModel", "digit", "[I", true)
  | 3 => ("DecimalTruthModel", "digits", "I", false)
  | 4 => ("DecimalTruthModel", "place", "I", false)
  | 5 => ("DecimalTruthModel", "zeros", "I", false)
  | 6 => ("DecimalTruthModel", "behind", "I", false)
  | 7 => ("DecimalTruthModel", "row", "[I", true)
  | 8 => ("DecimalTruthModel", "many", "I", false)
  | 9 => ("DecimalTruthModel", "fraction", "I", false)
  | 10 => ("DecimalTruthModel", "found", "J", false)
  | 11 => ("DecimalTruthModel", "bit", "[I", true)
  | 12 => ("DecimalTruthModel", "was", "[I", true)
  | 13 => ("DecimalTruthModel", "low", "[I", true)
  | 14 => ("DecimalTruthModel", "high", "[I", true)
  | 15 => ("DecimalTruthModel", "lows", "I", false)
  | 16 => ("DecimalTruthModel", "lowPlace", "I", false)
  | 17 => ("DecimalTruthModel", "highs", "I", false)
  | _ => ("DecimalTruthModel", "highPlace", "I", false)
def ty4_ : Nat → FieldType := fun k => match k with
  | 0 => .int
  | 1 => .boolean
  | 2 => .array .int
  | 3 => .int
  | 4 => .int
  | 5 => .int
  | 6 => .int
  | 7 => .array .int
  | 8 => .int
  | 9 => .int
  | 10 => .long
  | 11 => .array .int
  | 12 => .array .int
  | 13 => .array .int
  | 14 => .array .int
  | 15 => .int
  | 16 => .int
  | 17 => .int
  | _ => .int
theorem tn_4 : ∀ a, a < 19 → ∀ b, b < 19 → a ≠ b → (TF4 a).2.1 ≠ (TF4 b).2.1 := by decide +kernel
theorem tt_4 : ∀ k, k < 19 → parseFieldDescriptor (TF4 k).2.2.1 = some (ty4_ k) := by decide +kernel
theorem tu_4 : ∀ w ∈ u_ws "DecimalTruthModel" TF4 19, w ∈ al := by
  have h : (u_ws "DecimalTruthModel" TF4 19).all (fun w => decide (w ∈ tables_1) && goodWord w) = true := by decide +kernel
  intro w hw
  have h2 := List.all_eq_true.mp h w hw
  rw [Bool.and_eq_true, decide_eq_true_iff] at h2
  exact List.mem_filter.mpr ⟨List.mem_append_right _ h2.1, h2.2⟩
abbrev clz : List vw_C := [("DecimalTruth$Decimal", TF0, 3), ("DecimalTruth$Groups", TF1, 3), ("DecimalTruth$Words", TF2, 2), ("DecimalTruth", TF3, 9), ("DecimalTruthModel", TF4, 19)]
abbrev kb_Tru_init : ByteArray := prog_1_method_1_code
abbrev ky_Tru_init : MethodName := ⟨"DecimalTruth", "<init>", "()V"⟩
theorem cd_Tru_init : Cond.code ky_Tru_init kb_Tru_init 1 none ∈ al := wl (i := 21) rfl rfl
abbrev kb_Tru_set : ByteArray := prog_1_method_2_code
abbrev ky_Tru_set : MethodName := ⟨"DecimalTruth", "set", "(J)I"⟩
theorem cd_Tru_set : Cond.code ky_Tru_set kb_Tru_set 5 (some .int) ∈ al := wl (i := 116) rfl rfl
abbrev kb_Tru_digit : ByteArray := prog_1_method_3_code
abbrev ky_Tru_digit : MethodName := ⟨"DecimalTruth", "digit", "(I)I"⟩
theorem cd_Tru_digit : Cond.code ky_Tru_digit kb_Tru_digit 2 (some .int) ∈ al := wl (i := 254) rfl rfl
abbrev kb_Tru_clear : ByteArray := prog_1_method_4_code
abbrev ky_Tru_clear : MethodName := ⟨"DecimalTruth", "clear", "(ZI)V"⟩
theorem cd_Tru_clear : Cond.code ky_Tru_clear kb_Tru_clear 3 none ∈ al := wl (i := 287) rfl rfl
abbrev kb_Tru_round : ByteArray := prog_1_method_5_code
abbrev ky_Tru_round : MethodName := ⟨"DecimalTruth", "round", "(I)I"⟩
theorem cd_Tru_round : Cond.code ky_Tru_round kb_Tru_round 2 (some .int) ∈ al := wl (i := 299) rfl rfl
abbrev kb_Tru_places : ByteArray := prog_1_method_6_code
abbrev ky_Tru_places : MethodName := ⟨"DecimalTruth", "places", "(I)I"⟩
theorem cd_Tru_places : Cond.code ky_Tru_places kb_Tru_places 2 (some .int) ∈ al := wl (i := 328) rfl rfl
abbrev kb_Tru_nearest : ByteArray := prog_1_method_7_code
abbrev ky_Tru_nearest : MethodName := ⟨"DecimalTruth", "nearest", "()J"⟩
theorem cd_Tru_nearest : Cond.code ky_Tru_nearest kb_Tru_nearest 3 (some .long) ∈ al := wl (i := 337) rfl rfl
abbrev kb_Tru_enough : ByteArray := prog_1_method_8_code
abbrev ky_Tru_enough : MethodName := ⟨"DecimalTruth", "enough", "()I"⟩
set_option maxRecDepth 10000 in
theorem cd_Tru_enough : Cond.code ky_Tru_enough kb_Tru_enough 4 (some .int) ∈ al := wl (i := 406) rfl rfl
abbrev kb_Tru_look : ByteArray := prog_1_method_9_code
abbrev ky_Tru_look : MethodName := ⟨"DecimalTruth", "look", "(I)I"⟩
set_option maxRecDepth 10000 in
theorem cd_Tru_look : Cond.code ky_Tru_look kb_Tru_look 2 (some .int) ∈ al := wl (i := 443) rfl rfl
abbrev kb_Tru_count : ByteArray := prog_1_method_10_code
abbrev ky_Tru_count : MethodName := ⟨"DecimalTruth", "count", "(I)I"⟩
set_option maxRecDepth 10000 in
theorem cd_Tru_count : Cond.code ky_Tru_count kb_Tru_count 2 (some .int) ∈ al := wl (i := 451) rfl rfl
abbrev kb_Tru_hasNoRoomFor : ByteArray := prog_1_method_11_code
abbrev ky_Tru_hasNoRoomFor : MethodName := ⟨"DecimalTruth", "hasNoRoomFor", "(I)Z"⟩
theorem cd_Tru_hasNoRoomFor : Cond.code ky_Tru_hasNoRoomFor kb_Tru_hasNoRoomFor 2 (some .boolean) ∈ al := wl (i := 259) rfl rfl
abbrev kb_Tru_bringDigit : ByteArray := prog_1_method_12_code
abbrev ky_Tru_bringDigit : MethodName := ⟨"DecimalTruth", "bringDigit", "(I)V"⟩
theorem cd_Tru_bringDigit : Cond.code ky_Tru_bringDigit kb_Tru_bringDigit 3 none ∈ al := wl (i := 279) rfl rfl
abbrev kb_Tru_forgetWhatCame : ByteArray := prog_1_method_13_code
abbrev ky_Tru_forgetWhatCame : MethodName := ⟨"DecimalTruth", "forgetWhatCame", "()V"⟩
theorem cd_Tru_forgetWhatCame : Cond.code ky_Tru_forgetWhatCame kb_Tru_forgetWhatCame 1 none ∈ al := wl (i := 246) rfl rfl
abbrev kb_Tru_roundToDigits : ByteArray := prog_1_method_14_code
abbrev ky_Tru_roundToDigits : MethodName := ⟨"DecimalTruth", "roundToDigits", "(I)V"⟩
theorem cd_Tru_roundToDigits : Cond.code ky_Tru_roundToDigits kb_Tru_roundToDigits 2 none ∈ al := wl (i := 304) rfl rfl
abbrev kb_Tru_nearestSize : ByteArray := prog_1_method_15_code
abbrev ky_Tru_nearestSize : MethodName := ⟨"DecimalTruth", "nearestSize", "()J"⟩
theorem cd_Tru_nearestSize : Cond.code ky_Tru_nearestSize kb_Tru_nearestSize 1 (some .long) ∈ al := wl (i := 341) rfl rfl
abbrev kb_Tru_leastDigitsFor : ByteArray := prog_1_method_16_code
abbrev ky_Tru_leastDigitsFor : MethodName := ⟨"DecimalTruth", "leastDigitsFor", "(J)I"⟩
set_option maxRecDepth 10000 in
theorem cd_Tru_leastDigitsFor : Cond.code ky_Tru_leastDigitsFor kb_Tru_leastDigitsFor 5 (some .int) ∈ al := wl (i := 410) rfl rfl
abbrev kb_Tru_holdsWith : ByteArray := prog_1_method_17_code
abbrev ky_Tru_holdsWith : MethodName := ⟨"DecimalTruth", "holdsWith", "(IZ)Z"⟩
set_option maxRecDepth 10000 in
theorem cd_Tru_holdsWith : Cond.code ky_Tru_holdsWith kb_Tru_holdsWith 5 (some .boolean) ∈ al := wl (i := 419) rfl rfl
abbrev kb_Tru_spellMiddleAbove : ByteArray := prog_1_method_18_code
abbrev ky_Tru_spellMiddleAbove : MethodName := ⟨"DecimalTruth", "spellMiddleAbove", "(JLDecimalTruth$Decimal;)V"⟩
set_option maxRecDepth 10000 in
theorem cd_Tru_spellMiddleAbove : Cond.code ky_Tru_spellMiddleAbove kb_Tru_spellMiddleAbove 4 none ∈ al := wl (i := 414) rfl rfl
abbrev kb_Tru_spell : ByteArray := prog_1_method_19_code
abbrev ky_Tru_spell : MethodName := ⟨"DecimalTruth", "spell", "(JILDecimalTruth$Decimal;)V"⟩
theorem cd_Tru_spell : Cond.code ky_Tru_spell kb_Tru_spell 5 none ∈ al := wl (i := 200) rfl rfl
abbrev kb_Tru_factorOf : ByteArray := prog_1_method_20_code
abbrev ky_Tru_factorOf : MethodName := ⟨"DecimalTruth", "factorOf", "(J)J"⟩
theorem cd_Tru_factorOf : Cond.code ky_Tru_factorOf kb_Tru_factorOf 4 (some .long) ∈ al := wl (i := 189) rfl rfl
abbrev kb_Tru_powerOf : ByteArray := prog_1_method_21_code
abbrev ky_Tru_powerOf : MethodName := ⟨"DecimalTruth", "powerOf", "(J)I"⟩
theorem cd_Tru_powerOf : Cond.code ky_Tru_powerOf kb_Tru_powerOf 3 (some .int) ∈ al := wl (i := 193) rfl rfl
abbrev kb_Mod_init : ByteArray := prog_6_method_1_code
abbrev ky_Mod_init : MethodName := ⟨"DecimalTruthModel", "<init>", "()V"⟩
set_option maxRecDepth 10000 in
theorem cd_Mod_init : Cond.code ky_Mod_init kb_Mod_init 1 none ∈ al := wl (i := 457) rfl rfl
abbrev kb_Mod_thrown : ByteArray := prog_6_method_2_code
abbrev ky_Mod_thrown : MethodName := ⟨"DecimalTruthModel", "thrown", "()I"⟩
set_option maxRecDepth 10000 in
theorem cd_Mod_thrown : Cond.code ky_Mod_thrown kb_Mod_thrown 1 (some .int) ∈ al := wl (i := 520) rfl rfl
abbrev kb_Mod_in : ByteArray := prog_6_method_3_code
abbrev ky_Mod_in : MethodName := ⟨"DecimalTruthModel", "in", "(JJJ)Z"⟩
set_option maxRecDepth 10000 in
theorem cd_Mod_in : Cond.code ky_Mod_in kb_Mod_in 6 (some .boolean) ∈ al := wl (i := 551) rfl rfl
abbrev kb_Mod_fails : ByteArray := prog_6_method_4_code
abbrev ky_Mod_fails : MethodName := ⟨"DecimalTruthModel", "fails", "(ZI)Z"⟩
set_option maxRecDepth 10000 in
theorem cd_Mod_fails : Cond.code ky_Mod_fails kb_Mod_fails 3 (some .boolean) ∈ al := wl (i := 528) rfl rfl
abbrev kb_Mod_set : ByteArray := prog_6_method_5_code
abbrev ky_Mod_set : MethodName := ⟨"DecimalTruthModel", "set", "(J)I"⟩
set_option maxRecDepth 10000 in
theorem cd_Mod_set : Cond.code ky_Mod_set kb_Mod_set 10 (some .int) ∈ al := wl (i := 524) rfl rfl
abbrev kb_Mod_twice : ByteArray := prog_6_method_6_code
abbrev ky_Mod_twice : MethodName := ⟨"DecimalTruthModel", "twice", "()V"⟩
set_option maxRecDepth 10000 in
theorem cd_Mod_twice : Cond.code ky_Mod_twice kb_Mod_twice 4 none ∈ al := wl (i := 535) rfl rfl
abbrev kb_Mod_half : ByteArray := prog_6_method_7_code
abbrev ky_Mod_half : MethodName := ⟨"DecimalTruthModel", "half", "()V"⟩
set_option maxRecDepth 10000 in
theorem cd_Mod_half : Cond.code ky_Mod_half kb_Mod_half 4 none ∈ al := wl (i := 539) rfl rfl
abbrev kb_Mod_keep : ByteArray := prog_6_method_8_code
abbrev ky_Mod_keep : MethodName := ⟨"DecimalTruthModel", "keep", "()V"⟩
set_option maxRecDepth 10000 in
theorem cd_Mod_keep : Cond.code ky_Mod_keep kb_Mod_keep 4 none ∈ al := wl (i := 543) rfl rfl
abbrev kb_Mod_digit : ByteArray := prog_6_method_9_code
abbrev ky_Mod_digit : MethodName := ⟨"DecimalTruthModel", "digit", "(I)I"⟩
set_option maxRecDepth 10000 in
theorem cd_Mod_digit : Cond.code ky_Mod_digit kb_Mod_digit 2 (some .int) ∈ al := wl (i := 547) rfl rfl
abbrev kb_Mod_clear : ByteArray := prog_6_method_10_code
abbrev ky_Mod_clear : MethodName := ⟨"DecimalTruthModel", "clear", "(ZI)V"⟩
set_option maxRecDepth 10000 in
theorem cd_Mod_clear : Cond.code ky_Mod_clear kb_Mod_clear 3 none ∈ al := wl (i := 555) rfl rfl
abbrev kb_Mod_cut : ByteArray := prog_6_method_11_code
abbrev ky_Mod_cut : MethodName := ⟨"DecimalTruthModel", "cut", "(J)V"⟩
set_option maxRecDepth 10000 in
theorem cd_Mod_cut : Cond.code ky_Mod_cut kb_Mod_cut 5 none ∈ al := wl (i := 567) rfl rfl
abbrev kb_Mod_nothing : ByteArray := prog_6_method_12_code
abbrev ky_Mod_nothing : MethodName := ⟨"DecimalTruthModel", "nothing", "()V"⟩
set_option maxRecDepth 10000 in
theorem cd_Mod_nothing : Cond.code ky_Mod_nothing kb_Mod_nothing 1 none ∈ al := wl (i := 571) rfl rfl
abbrev kb_Mod_round : ByteArray := prog_6_method_13_code
abbrev ky_Mod_round : MethodName := ⟨"DecimalTruthModel", "round", "(I)I"⟩
set_option maxRecDepth 10000 in
theorem cd_Mod_round : Cond.code ky_Mod_round kb_Mod_round 2 (some .int) ∈ al := wl (i := 561) rfl rfl
abbrev kb_Mod_places : ByteArray := prog_6_method_14_code
abbrev ky_Mod_places : MethodName := ⟨"DecimalTruthModel", "places", "(I)I"⟩
set_option maxRecDepth 10000 in
theorem cd_Mod_places : Cond.code ky_Mod_places kb_Mod_places 2 (some .int) ∈ al := wl (i := 575) rfl rfl
abbrev kb_Mod_finds : ByteArray := prog_6_method_15_code
abbrev ky_Mod_finds : MethodName := ⟨"DecimalTruthModel", "finds", "(I)Z"⟩
set_option maxRecDepth 10000 in
theorem cd_Mod_finds : Cond.code ky_Mod_finds kb_Mod_finds 13 (some .boolean) ∈ al := wl (i := 584) rfl rfl
abbrev kb_Mod_isNothing : ByteArray := prog_6_method_16_code
abbrev ky_Mod_isNothing : MethodName := ⟨"DecimalTruthModel", "isNothing", "(II)Z"⟩
set_option maxRecDepth 10000 in
theorem cd_Mod_isNothing : Cond.code ky_Mod_isNothing kb_Mod_isNothing 4 (some .boolean) ∈ al := wl (i := 588) rfl rfl
abbrev kb_Mod_put : ByteArray := prog_6_method_17_code
abbrev ky_Mod_put : MethodName := ⟨"DecimalTruthModel", "put", "(JIIZ)Z"⟩
set_option maxRecDepth 10000 in
theorem cd_Mod_put : Cond.code ky_Mod_put kb_Mod_put 12 (some .boolean) ∈ al := wl (i := 592) rfl rfl
abbrev kb_Mod_nearest : ByteArray := prog_6_method_18_code
abbrev ky_Mod_nearest : MethodName := ⟨"DecimalTruthModel", "nearest", "()J"⟩
set_option maxRecDepth 10000 in
theorem cd_Mod_nearest : Cond.code ky_Mod_nearest kb_Mod_nearest 1 (some .long) ∈ al := wl (i := 580) rfl rfl
abbrev kb_Mod_exactly : ByteArray := prog_6_method_19_code
abbrev ky_Mod_exactly : MethodName := ⟨"DecimalTruthModel", "exactly", "(JI)V"⟩
set_option maxRecDepth 10000 in
theorem cd_Mod_exactly : Cond.code ky_Mod_exactly kb_Mod_exactly 7 none ∈ al := wl (i := 603) rfl rfl
abbrev kb_Mod_compare : ByteArray := prog_6_method_20_code
abbrev ky_Mod_compare : MethodName := ⟨"DecimalTruthModel", "compare", "([III)I"⟩
set_option maxRecDepth 10000 in
theorem cd_Mod_compare : Cond.code ky_Mod_compare kb_Mod_compare 7 (some .int) ∈ al := wl (i := 608) rfl rfl
abbrev kb_Mod_enough : ByteArray := prog_6_method_21_code
abbrev ky_Mod_enough : MethodName := ⟨"DecimalTruthModel", "enough", "()I"⟩
set_option maxRecDepth 10000 in
theorem cd_Mod_enough : Cond.code ky_Mod_enough kb_Mod_enough 12 (some .int) ∈ al := wl (i := 598) rfl rfl
abbrev kb_Mod_look : ByteArray := prog_6_method_22_code
abbrev ky_Mod_look : MethodName := ⟨"DecimalTruthModel", "look", "(I)I"⟩
set_option maxRecDepth 10000 in
theorem cd_Mod_look : Cond.code ky_Mod_look kb_Mod_look 2 (some .int) ∈ al := wl (i := 612) rfl rfl
abbrev kb_Mod_count : ByteArray := prog_6_method_23_code
abbrev ky_Mod_count : MethodName := ⟨"DecimalTruthModel", "count", "(I)I"⟩
set_option maxRecDepth 10000 in
theorem cd_Mod_count : Cond.code ky_Mod_count kb_Mod_count 2 (some .int) ∈ al := wl (i := 616) rfl rfl
abbrev kb_Dec_init : ByteArray := prog_2_method_1_code
abbrev ky_Dec_init : MethodName := ⟨"DecimalTruth$Decimal", "<init>", "()V"⟩
theorem cd_Dec_init : Cond.code ky_Dec_init kb_Dec_init 1 none ∈ al := wl (i := 29) rfl rfl
abbrev kb_Dec_beZero : ByteArray := prog_2_method_2_code
abbrev ky_Dec_beZero : MethodName := ⟨"DecimalTruth$Decimal", "beZero", "()V"⟩
theorem cd_Dec_beZero : Cond.code ky_Dec_beZero kb_Dec_beZero 1 none ∈ al := wl (i := 292) rfl rfl
abbrev kb_Dec_beStartOf : ByteArray := prog_2_method_3_code
abbrev ky_Dec_beStartOf : MethodName := ⟨"DecimalTruth$Decimal", "beStartOf", "(LDecimalTruth$Decimal;I)V"⟩
set_option maxRecDepth 10000 in
theorem cd_Dec_beStartOf : Cond.code ky_Dec_beStartOf kb_Dec_beStartOf 3 none ∈ al := wl (i := 424) rfl rfl
abbrev kb_Dec_append : ByteArray := prog_2_method_4_code
abbrev ky_Dec_append : MethodName := ⟨"DecimalTruth$Decimal", "append", "(I)V"⟩
theorem cd_Dec_append : Cond.code ky_Dec_append kb_Dec_append 2 none ∈ al := wl (i := 238) rfl rfl
abbrev kb_Dec_cutBehind : ByteArray := prog_2_method_5_code
abbrev ky_Dec_cutBehind : MethodName := ⟨"DecimalTruth$Decimal", "cutBehind", "(I)V"⟩
theorem cd_Dec_cutBehind : Cond.code ky_Dec_cutBehind kb_Dec_cutBehind 3 none ∈ al := wl (i := 308) rfl rfl
abbrev kb_Dec_goesUpBehind : ByteArray := prog_2_method_6_code
abbrev ky_Dec_goesUpBehind : MethodName := ⟨"DecimalTruth$Decimal", "goesUpBehind", "(I)Z"⟩
theorem cd_Dec_goesUpBehind : Cond.code ky_Dec_goesUpBehind kb_Dec_goesUpBehind 4 (some .boolean) ∈ al := wl (i := 313) rfl rfl
abbrev kb_Dec_settle : ByteArray := prog_2_method_7_code
abbrev ky_Dec_settle : MethodName := ⟨"DecimalTruth$Decimal", "settle", "(Z)V"⟩
theorem cd_Dec_settle : Cond.code ky_Dec_settle kb_Dec_settle 2 none ∈ al := wl (i := 317) rfl rfl
abbrev kb_Dec_goUp : ByteArray := prog_2_method_8_code
abbrev ky_Dec_goUp : MethodName := ⟨"DecimalTruth$Decimal", "goUp", "()V"⟩
theorem cd_Dec_goUp : Cond.code ky_Dec_goUp kb_Dec_goUp 1 none ∈ al := wl (i := 321) rfl rfl
abbrev kb_Dec_dropZerosAtEnd : ByteArray := prog_2_method_9_code
abbrev ky_Dec_dropZerosAtEnd : MethodName := ⟨"DecimalTruth$Decimal", "dropZerosAtEnd", "()V"⟩
theorem cd_Dec_dropZerosAtEnd : Cond.code ky_Dec_dropZerosAtEnd kb_Dec_dropZerosAtEnd 1 none ∈ al := wl (i := 242) rfl rfl
abbrev kb_Dec_against : ByteArray := prog_2_method_10_code
abbrev ky_Dec_against : MethodName := ⟨"DecimalTruth$Decimal", "against", "(LDecimalTruth$Decimal;)I"⟩
set_option maxRecDepth 10000 in
theorem cd_Dec_against : Cond.code ky_Dec_against kb_Dec_against 4 (some .int) ∈ al := wl (i := 432) rfl rfl
abbrev kb_Dec_read : ByteArray := prog_2_method_11_code
abbrev ky_Dec_read : MethodName := ⟨"DecimalTruth$Decimal", "read", "(LDecimalTruth$Groups;)V"⟩
theorem cd_Dec_read : Cond.code ky_Dec_read kb_Dec_read 3 none ∈ al := wl (i := 224) rfl rfl
abbrev kb_Dec_readGroup : ByteArray := prog_2_method_12_code
abbrev ky_Dec_readGroup : MethodName := ⟨"DecimalTruth$Decimal", "readGroup", "(J)V"⟩
theorem cd_Dec_readGroup : Cond.code ky_Dec_readGroup kb_Dec_readGroup 6 none ∈ al := wl (i := 232) rfl rfl
abbrev kb_Grp_init : ByteArray := prog_3_method_1_code
abbrev ky_Grp_init : MethodName := ⟨"DecimalTruth$Groups", "<init>", "()V"⟩
theorem cd_Grp_init : Cond.code ky_Grp_init kb_Grp_init 1 none ∈ al := wl (i := 52) rfl rfl
abbrev kb_Grp_placeOfFirst : ByteArray := prog_3_method_2_code
abbrev ky_Grp_placeOfFirst : MethodName := ⟨"DecimalTruth$Groups", "placeOfFirst", "()I"⟩
theorem cd_Grp_placeOfFirst : Cond.code ky_Grp_placeOfFirst kb_Grp_placeOfFirst 1 (some .int) ∈ al := wl (i := 228) rfl rfl
abbrev kb_Grp_hasSomethingBehindPoint : ByteArray := prog_3_method_3_code
abbrev ky_Grp_hasSomethingBehindPoint : MethodName := ⟨"DecimalTruth$Groups", "hasSomethingBehindPoint", "()Z"⟩
set_option maxRecDepth 10000 in
theorem cd_Grp_hasSomethingBehindPoint : Cond.code ky_Grp_hasSomethingBehindPoint kb_Grp_hasSomethingBehindPoint 1 (some .boolean) ∈ al := wl (i := 362) rfl rfl
abbrev kb_Grp_beProduct : ByteArray := prog_3_method_4_code
abbrev ky_Grp_beProduct : MethodName := ⟨"DecimalTruth$Groups", "beProduct", "(JI)V"⟩
theorem cd_Grp_beProduct : Cond.code ky_Grp_beProduct kb_Grp_beProduct 5 none ∈ al := wl (i := 204) rfl rfl
abbrev kb_Grp_load : ByteArray := prog_3_method_5_code
abbrev ky_Grp_load : MethodName := ⟨"DecimalTruth$Groups", "load", "(LDecimalTruth$Decimal;)V"⟩
theorem cd_Grp_load : Cond.code ky_Grp_load kb_Grp_load 5 none ∈ al := wl (i := 345) rfl rfl
abbrev kb_Grp_multiply : ByteArray := prog_3_method_6_code
abbrev ky_Grp_multiply : MethodName := ⟨"DecimalTruth$Groups", "multiply", "(II)J"⟩
theorem cd_Grp_multiply : Cond.code ky_Grp_multiply kb_Grp_multiply 8 (some .long) ∈ al := wl (i := 215) rfl rfl
abbrev kb_Grp_divide : ByteArray := prog_3_method_7_code
abbrev ky_Grp_divide : MethodName := ⟨"DecimalTruth$Groups", "divide", "(II)J"⟩
theorem cd_Grp_divide : Cond.code ky_Grp_divide kb_Grp_divide 10 (some .long) ∈ al := wl (i := 219) rfl rfl
abbrev kb_Wrd_init : ByteArray := prog_4_method_1_code
abbrev ky_Wrd_init : MethodName := ⟨"DecimalTruth$Words", "<init>", "()V"⟩
theorem cd_Wrd_init : Cond.code ky_Wrd_init kb_Wrd_init 1 none ∈ al := wl (i := 72) rfl rfl
abbrev kb_Wrd_load : ByteArray := prog_4_method_2_code
abbrev ky_Wrd_load : MethodName := ⟨"DecimalTruth$Words", "load", "(LDecimalTruth$Groups;)V"⟩
set_option maxRecDepth 10000 in
theorem cd_Wrd_load : Cond.code ky_Wrd_load kb_Wrd_load 4 none ∈ al := wl (i := 351) rfl rfl
abbrev kb_Wrd_roundedSize : ByteArray := prog_4_method_3_code
abbrev ky_Wrd_roundedSize : MethodName := ⟨"DecimalTruth$Words", "roundedSize", "()J"⟩
set_option maxRecDepth 10000 in
theorem cd_Wrd_roundedSize : Cond.code ky_Wrd_roundedSize kb_Wrd_roundedSize 9 (some .long) ∈ al := wl (i := 366) rfl rfl
abbrev kb_Wrd_roundHead : ByteArray := prog_4_method_4_code
abbrev ky_Wrd_roundHead : MethodName := ⟨"DecimalTruth$Words", "roundHead", "(JZI)J"⟩
set_option maxRecDepth 10000 in
theorem cd_Wrd_roundHead : Cond.code ky_Wrd_roundHead kb_Wrd_roundHead 13 (some .long) ∈ al := wl (i := 381) rfl rfl
abbrev kb_Wrd_firstThatIsNotZero : ByteArray := prog_4_method_5_code
abbrev ky_Wrd_firstThatIsNotZero : MethodName := ⟨"DecimalTruth$Words", "firstThatIsNotZero", "(I)I"⟩
set_option maxRecDepth 10000 in
theorem cd_Wrd_firstThatIsNotZero : Cond.code ky_Wrd_firstThatIsNotZero kb_Wrd_firstThatIsNotZero 3 (some .int) ∈ al := wl (i := 357) rfl rfl
abbrev kb_Wrd_isMoreFrom : ByteArray := prog_4_method_6_code
abbrev ky_Wrd_isMoreFrom : MethodName := ⟨"DecimalTruth$Words", "isMoreFrom", "(I)Z"⟩
set_option maxRecDepth 10000 in
theorem cd_Wrd_isMoreFrom : Cond.code ky_Wrd_isMoreFrom kb_Wrd_isMoreFrom 4 (some .boolean) ∈ al := wl (i := 378) rfl rfl
abbrev kb_Law_set : ByteArray := method_3_code
abbrev ky_Law_set : MethodName := ⟨"DecimalTruthLaw", "set", "(LDecimalTruth;J[J)I"⟩
abbrev kb_Law_digit : ByteArray := method_4_code
abbrev ky_Law_digit : MethodName := ⟨"DecimalTruthLaw", "digit", "(LDecimalTruth;I[J)I"⟩
abbrev kb_Law_clear : ByteArray := method_5_code
abbrev ky_Law_clear : MethodName := ⟨"DecimalTruthLaw", "clear", "(LDecimalTruth;ZI)I"⟩
abbrev kb_Law_round : ByteArray := method_6_code
abbrev ky_Law_round : MethodName := ⟨"DecimalTruthLaw", "round", "(LDecimalTruth;I[J)I"⟩
abbrev kb_Law_places : ByteArray := method_7_code
abbrev ky_Law_places : MethodName := ⟨"DecimalTruthLaw", "places", "(LDecimalTruth;I[J)I"⟩
abbrev kb_Law_nearest : ByteArray := method_8_code
abbrev ky_Law_nearest : MethodName := ⟨"DecimalTruthLaw", "nearest", "(LDecimalTruth;[J)I"⟩
abbrev kb_Law_enough : ByteArray := method_9_code
abbrev ky_Law_enough : MethodName := ⟨"DecimalTruthLaw", "enough", "(LDecimalTruth;[J)I"⟩
abbrev kb_Law_look : ByteArray := method_10_code
abbrev ky_Law_look : MethodName := ⟨"DecimalTruthLaw", "look", "(LDecimalTruth;I[J)I"⟩
abbrev kb_Law_count : ByteArray := method_11_code
abbrev ky_Law_count : MethodName := ⟨"DecimalTruthLaw", "count", "(LDecimalTruth;I[J)I"⟩
abbrev kb_JInt_compare : ByteArray := prog_11_method_40_code
abbrev ky_JInt_compare : MethodName := ⟨"java/lang/Integer", "compare", "(II)I"⟩
set_option maxRecDepth 10000 in
theorem cd_JInt_compare : Cond.code ky_JInt_compare kb_JInt_compare 2 (some .int) ∈ al := wl (i := 435) rfl rfl
abbrev kb_JInt_numberOfLeadingZeros : ByteArray := prog_11_method_47_code
abbrev ky_JInt_numberOfLeadingZeros : MethodName := ⟨"java/lang/Integer", "numberOfLeadingZeros", "(I)I"⟩
set_option maxRecDepth 10000 in
theorem cd_JInt_numberOfLeadingZeros : Cond.code ky_JInt_numberOfLeadingZeros kb_JInt_numberOfLeadingZeros 2 (some .int) ∈ al := wl (i := 372) rfl rfl
abbrev kb_JLon_numberOfLeadingZeros : ByteArray := prog_12_method_48_code
abbrev ky_JLon_numberOfLeadingZeros : MethodName := ⟨"java/lang/Long", "numberOfLeadingZeros", "(J)I"⟩
set_option maxRecDepth 10000 in
theorem cd_JLon_numberOfLeadingZeros : Cond.code ky_JLon_numberOfLeadingZeros kb_JLon_numberOfLeadingZeros 3 (some .int) ∈ al := wl (i := 369) rfl rfl
abbrev kb_JArr_fill : ByteArray := prog_18_method_101_code
abbrev ky_JArr_fill : MethodName := ⟨"java/util/Arrays", "fill", "([JJ)V"⟩
theorem cd_JArr_fill : Cond.code ky_JArr_fill kb_JArr_fill 5 none ∈ al := wl (i := 207) rfl rfl
end
section
/-! ints and longs of the machine as whole numbers -/
def zi (z : Int) : Int32 := Int32.ofInt z
def zj (z : Int) : Int64 := Int64.ofInt z
abbrev ri (z : Int) : Prop := -2147483648 ≤ z ∧ z ≤ 2147483647
abbrev rj (z : Int) : Prop := -9223372036854775808 ≤ z ∧ z ≤ 9223372036854775807
def b2 (b : Bool) : Int := cond b 1 0
theorem zi_toInt {z : Int} (h : ri z) : (zi z).toInt = z := Int32.toInt_ofInt_of_le (by have := h.1; omega) (by have := h.2; omega)
theorem zj_toInt {z : Int} (h : rj z) : (zj z).toInt = z := Int64.toInt_ofInt_of_le (by have := h.1; omega) (by have := h.2; omega)
theorem zi_of (x : Int32) : x = zi x.toInt := (Int32.ofInt_toInt x).symm
theorem zj_of (x : Int64) : x = zj x.toInt := (Int64.ofInt_toInt x).symm
theorem zi_ri (x : Int32) : ri x.toInt := ⟨by have := x.le_toInt; omega, by have := x.toInt_lt; omega⟩
theorem zj_rj (x : Int64) : rj x.toInt := ⟨by have := x.le_toInt; omega, by have := x.toInt_lt; omega⟩
theorem zi_add (a b : Int) : zi a + zi b = zi (a + b) := (Int32.ofInt_add a b).symm
theorem zi_sub (a b : Int) : zi a - zi b = zi (a - b) := (Int32.ofInt_sub a b).symm
theorem zi_mul (a b : Int) : zi a * zi b = zi (a * b) := (Int32.ofInt_mul a b).symm
theorem zi_neg (a : Int) : -zi a = zi (-a) := (Int32.ofInt_neg a).symm
theorem zj_add (a b : Int) : zj a + zj b = zj (a + b) := (Int64.ofInt_add a b).symm
theorem zj_sub (a b : Int) : zj a - zj b = zj (a - b) := (Int64.ofInt_sub a b).symm
theorem zj_mul (a b : Int) : zj a * zj b = zj (a * b) := (Int64.ofInt_mul a b).symm
theorem zj_neg (a : Int) : -zj a = zj (-a) := (Int64.ofInt_neg a).symm
theorem zi_lt {a b : Int} (ha : ri a) (hb : ri b) : zi a < zi b ↔ a < b := by rw [Int32.lt_iff_toInt_lt, zi_toInt ha, zi_toInt hb]
theorem zi_le {a b : Int} (ha : ri a) (hb : ri b) : zi a ≤ zi b ↔ a ≤ b := by rw [Int32.le_iff_toInt_le, zi_toInt ha, zi_toInt hb]
theorem zi_eq {a b : Int} (ha : ri a) (hb : ri b) : zi a = zi b ↔ a = b := by rw [← Int32.toInt_inj, zi_toInt ha, zi_toInt hb]
theorem zj_lt {a b : Int} (ha : rj a) (hb : rj b) : zj a < zj b ↔ a < b := by rw [Int64.lt_iff_toInt_lt, zj_toInt ha, zj_toInt hb]
theorem zj_le {a b : Int} (ha : rj a) (hb : rj b) : zj a ≤ zj b ↔ a ≤ b := by rw [Int64.le_iff_toInt_le, zj_toInt ha, zj_toInt hb]
theorem zj_eq {a b : Int} (ha : rj a) (hb : rj b) : zj a = zj b ↔ a = b := by rw [← Int64.toInt_inj, zj_toInt ha, zj_toInt hb]
theorem zi_0 : zi 0 = 0 := by decide
theorem zj_0 : zj 0 = 0 := by decide
theorem zi_div {a b : Int} (ha : 0 ≤ a) (ha2 : a ≤ 2147483647) (hb : 0 < b) (hb2 : b ≤ 2147483647) : zi a / zi b = zi (a / b) := by
  apply Int32.toInt.inj
  rw [Int32.toInt_div_of_ne_right, zi_toInt ⟨by omega, ha2⟩, zi_toInt ⟨by omega, hb2⟩, Int.tdiv_eq_ediv_of_nonneg ha, zi_toInt]
  · exact ⟨by have := Int.ediv_nonneg ha (Int.le_of_lt hb); omega, by have := Int.ediv_le_self b ha; omega⟩
  · intro h
    have h2 : (zi b).toInt = (-1 : Int32).toInt := by rw [h]
    rw [zi_toInt ⟨by omega, hb2⟩] at h2
    have h3 : (-1 : Int32).toInt = -1 := by decide
    omega
theorem zj_div {a b : Int} (ha : 0 ≤ a) (ha2 : a ≤ 9223372036854775807) (hb : 0 < b) (hb2 : b ≤ 9223372036854775807) : zj a / zj b = zj (a / b) := by
  apply Int64.toInt.inj
  rw [Int64.toInt_div_of_ne_right, zj_toInt ⟨by omega, ha2⟩, zj_toInt ⟨by omega, hb2⟩, Int.tdiv_eq_ediv_of_nonneg ha, zj_toInt]
  · exact ⟨by have := Int.ediv_nonneg ha (Int.le_of_lt hb); omega, by have := Int.ediv_le_self b ha; omega⟩
  · intro h
    have h2 : (zj b).toInt = (-1 : Int64).toInt := by rw [h]
    rw [zj_toInt ⟨by omega, hb2⟩] at h2
    have h3 : (-1 : Int64).toInt = -1 := by decide
    omega
theorem zi_rem {a b : Int} (ha : 0 ≤ a) (ha2 : a ≤ 2147483647) (hb : 0 < b) (hb2 : b ≤ 2147483647) : zi a - zi a / zi b * zi b = zi (a % b) := by
  rw [zi_div ha ha2 hb hb2, zi_mul, zi_sub, Int.emod_def, Int.mul_comm]
theorem zj_rem {a b : Int} (ha : 0 ≤ a) (ha2 : a ≤ 9223372036854775807) (hb : 0 < b) (hb2 : b ≤ 9223372036854775807) : zj a - zj a / zj b * zj b = zj (a % b) := by
  rw [zj_div ha ha2 hb hb2, zj_mul, zj_sub, Int.emod_def, Int.mul_comm]
theorem zi_nz {b : Int} (hb : ri b) (h : b ≠ 0) : ¬ zi b = 0 := by rw [← zi_0, zi_eq hb (by omega)]; exact h
theorem zj_nz {b : Int} (hb : rj b) (h : b ≠ 0) : ¬ zj b = 0 := by rw [← zj_0, zj_eq hb (by omega)]; exact h
theorem zi_nat {k : Nat} (h : k ≤ 2147483647) : (zi (k : Int)).toNatClampNeg = k := by
  show (Int32.ofInt (k : Int)).toNatClampNeg = k
  rw [Int32.toNatClampNeg_ofInt_of_le (by omega) (by omega)]; omega
theorem zi_in {k n : Nat} (hk : k < n) (hn : n ≤ 2147483647) : vp_in (zi (k : Int)) n := by
  intro h
  rcases h with h | h
  · rw [← zi_0, zi_lt ⟨by omega, by omega⟩ (by omega)] at h; omega
  · rw [zi_nat (by omega)] at h; omega
theorem zi_zj {a : Int} (h : ri a) : (zi a).toInt64 = zj a := by
  apply Int64.toInt.inj
  rw [Int32.toInt_toInt64, zi_toInt h, zj_toInt ⟨by omega, by omega⟩]
theorem zj_zi (a : Int) : (zj a).toInt32 = zi a := Int64.toInt32_ofInt
theorem zi_ofNat (k : Nat) : Int32.ofNat k = zi (k : Int) := Int32.ofInt_eq_ofNat.symm
theorem zj_ofNat (k : Nat) : Int64.ofNat k = zj (k : Int) := Int64.ofInt_eq_ofNat.symm
theorem zj_bv (a : Nat) : (zj (a : Int)).toBitVec = BitVec.ofNat 64 a := by
  show BitVec.ofInt 64 (a : Int) = _
  exact BitVec.ofInt_natCast 64 a
theorem zj_bve {a : Nat} {x : Int64} (h : x.toBitVec.toNat = a % 2 ^ 64) : x = zj (a : Int) := by
  apply Int64.toBitVec.inj
  apply BitVec.eq_of_toNat_eq
  rw [zj_bv, BitVec.toNat_ofNat, h]
theorem zj_modn (a : Nat) : zj ((a % 2 ^ 64 : Nat) : Int) = zj (a : Int) := zj_bve (a := a) (by rw [zj_bv, BitVec.toNat_ofNat, Nat.mod_mod])
theorem zi_sh63 {k : Nat} (h : k < 64) : ((zi (k : Int)).toInt64 &&& 63).toBitVec.toNat = k := by
  rw [zi_zj ⟨by omega, by omega⟩]
  show ((zj (k : Int)).toBitVec &&& (63 : Int64).toBitVec).toNat = k
  rw [zj_bv, BitVec.toNat_and, BitVec.toNat_ofNat, show (63 : Int64).toBitVec.toNat = 2 ^ 6 - 1 by decide, Nat.and_two_pow_sub_one_eq_mod]
  omega
theorem zj_shl {a k : Nat} (h : k < 64) : zj (a : Int) <<< ((zi (k : Int)).toInt64 &&& 63) = zj ((a * 2 ^ k : Nat) : Int) := by
  apply zj_bve
  rw [Int64.toBitVec_shiftLeft, BitVec.shiftLeft_eq', BitVec.toNat_shiftLeft]
  have h1 : (((zi (k : Int)).toInt64 &&& 63).toBitVec.smod 64).toNat = k := by
    have h2 : ((zi (k : Int)).toInt64 &&& 63).toBitVec = BitVec.ofNat 64 k := by
      apply BitVec.eq_of_toNat_eq
      rw [zi_sh63 h, BitVec.toNat_ofNat]; omega
    rw [h2]
    have h3 : ∀ j : Fin 64, ((BitVec.ofNat 64 j.val).smod 64).toNat = j.val := by decide +kernel
    exact h3 ⟨k, h⟩
  rw [h1, zj_bv, BitVec.toNat_ofNat, Nat.shiftLeft_eq, Nat.mod_mul_mod]
theorem zj_ushr {a k : Nat} (ha : a < 2 ^ 64) (h : k < 64) : ((zj (a : Int)).toUInt64 >>> ((zi (k : Int)).toInt64.toUInt64 &&& Int64.toUInt64 63)).toInt64 = zj ((a / 2 ^ k : Nat) : Int) := by
  apply zj_bve
  have h1 : ((zi (k : Int)).toInt64.toUInt64 &&& Int64.toUInt64 63).toNat = k := zi_sh63 h
  show ((zj (a : Int)).toUInt64 >>> ((zi (k : Int)).toInt64.toUInt64 &&& Int64.toUInt64 63)).toNat = _
  rw [UInt64.toNat_shiftRight, h1, Nat.shiftRight_eq_div_pow, Nat.mod_eq_of_lt h]
  have h2 : (zj (a : Int)).toUInt64.toNat = a := by
    show (zj (a : Int)).toBitVec.toNat = a
    rw [zj_bv, BitVec.toNat_ofNat]; omega
  rw [h2, Nat.mod_eq_of_lt (Nat.lt_of_le_of_lt (Nat.div_le_self _ _) ha)]
theorem zj_and {a b : Nat} (hb : b ≤ 64) : zj (a : Int) &&& zj ((2 ^ b - 1 : Nat) : Int) = zj ((a % 2 ^ b : Nat) : Int) := by
  apply zj_bve
  show ((zj (a : Int)).toBitVec &&& (zj ((2 ^ b - 1 : Nat) : Int)).toBitVec).toNat = _
  have hp : 2 ^ b ≤ 2 ^ 64 := Nat.pow_le_pow_right (by decide) hb
  have hq : 0 < 2 ^ b := Nat.pow_pos (by decide)
  rw [zj_bv, zj_bv, BitVec.toNat_and, BitVec.toNat_ofNat, BitVec.toNat_ofNat, Nat.mod_eq_of_lt (a := 2 ^ b - 1) (by omega), Nat.and_two_pow_sub_one_eq_mod, Nat.mod_mod_of_dvd _ (Nat.pow_dvd_pow 2 hb), Nat.mod_eq_of_lt (a := a % 2 ^ b)]
  exact Nat.lt_of_lt_of_le (Nat.mod_lt _ hq) hp
theorem zj_or {a b k : Nat} (hb : b < 2 ^ k) (hk : a * 2 ^ k + b < 2 ^ 64) : zj ((a * 2 ^ k : Nat) : Int) ||| zj (b : Int) = zj ((a * 2 ^ k + b : Nat) : Int) := by
  apply zj_bve
  show ((zj ((a * 2 ^ k : Nat) : Int)).toBitVec ||| (zj (b : Int)).toBitVec).toNat = _
  rw [zj_bv, zj_bv, BitVec.toNat_or, BitVec.toNat_ofNat, BitVec.toNat_ofNat, Nat.mod_eq_of_lt (a := a * 2 ^ k) (by omega), Nat.mod_eq_of_lt (a := b) (by omega), Nat.mod_eq_of_lt hk, ← Nat.shiftLeft_eq, Nat.shiftLeft_add_eq_or_of_lt hb]
theorem zj_or' {a b k : Nat} (hb : b < 2 ^ k) (hk : a * 2 ^ k + b < 2 ^ 64) : zj (b : Int) ||| zj ((a * 2 ^ k : Nat) : Int) = zj ((a * 2 ^ k + b : Nat) : Int) := by
  rw [Int64.or_comm]; exact zj_or hb hk
/-- a negative long and the number of its bits -/
theorem zj_wrap (a : Int) : zj (a + 18446744073709551616) = zj a := by
  rw [← zj_add]
  have h : zj 18446744073709551616 = 0 := by decide
  rw [h, Int64.add_zero]
theorem zj_wraps (a : Int) : zj (a - 18446744073709551616) = zj a := by
  rw [← zj_wrap (a - _)]; congr 1; omega
theorem zj_cmp {a b : Int} (ha : rj a) (hb : rj b) : lg_cmp (zj a) (zj b) = zi (if b < a then 1 else if a = b then 0 else -1) := by
  unfold lg_cmp
  by_cases h1 : b < a
  · rw [if_pos h1, if_pos ((zj_lt hb ha).mpr h1)]; decide
  · rw [if_neg h1, if_neg (fun h => h1 ((zj_lt hb ha).mp h))]
    by_cases h2 : a = b
    · rw [if_pos h2, if_pos ((zj_eq ha hb).mpr h2)]; decide
    · rw [if_neg h2, if_neg (fun h => h2 ((zj_eq ha hb).mp h))]; decide
end
section
/-! the layer: one walk judgement over a bundle K, a row an instruction -/
abbrev Kx : Type := Program × Launch × Env × Room × State × MethodId × Array Value × List Frame × Method × Code × va_G × (Nat → Prop) × (State → Prop)
def V (K : Kx) (nL : Nat) (ws : va_W) (k n pc : Nat) (lv : List (Nat × Value)) (st : List Value) : Prop :=
  match K with
  | (p, l, e, R, s, m, args, below, meth, c, D, A, Q) => ∀ (H : Heap) (locs : List Loc) (ls : Array Slot), va_P D clz ws H → va_D A ws → va_S A s.heap H locs → lv_has ls nL lv → W p l e R s m args below meth c H locs k n Q (F0 m pc ls st)
def Cx (K : Kx) (cI cJ : ClassId) (cc : ByteArray) (nL : Nat) (own : String) (rm : Room) : Prop :=
  match K with
  | (p, _, _, R, s, m, args, _, _, c, D, A, _) => p.tables.exec = Jvm.exec ∧ c.code = cc ∧ c.maxLocals = nL ∧ s.vm.findClass own = some m.cls ∧ (∀ w ∈ al, w.before args s = true) ∧ va_K D clz [(cI, .int), (cJ, .long)] s ∧ (∀ q : Nat, s.heap.size ≤ q → A q) ∧ R = rm ∧ (∀ w ∈ nl, va_Nw w s)
def lk : List (Nat × Value) → Nat → Option Value
  | [], _ => none
  | (j, v) :: t, i => cond (Nat.beq j i) (some v) (lk t i)
theorem lk_mem : ∀ (lv : List (Nat × Value)) (i : Nat) (v : Value), lk lv i = some v → (i, v) ∈ lv
  | [], _, _, h => by cases h
  | (j, w) :: t, i, v, h => by
    unfold lk at h
    cases hb : Nat.beq j i with
    | true =>
      rw [hb] at h
      have h1 : w = v := Option.some.inj h
      have h2 : j = i := Nat.eq_of_beq_eq_true hb
      rw [h1, h2]
      exact List.mem_cons_self
    | false =>
      rw [hb] at h
      exact List.mem_cons_of_mem _ (lk_mem t i v h)
theorem lk_at {ls : Array Slot} {nL : Nat} {lv : List (Nat × Value)} (h : lv_has ls nL lv) {i : Nat} {v : Value} (hk : lk lv i = some v) : ls[i]? = some (.val v) := h.2.2 (i, v) (lk_mem _ _ _ hk)
abbrev ai (cI : ClassId) (a n : Nat) (f : Nat → Nat) : Nat × va_E := (a, .inl (cI, n, .inl (fun i => zi (f i : Nat))))
abbrev aj (cJ : ClassId) (a n : Nat) (f : Nat → Nat) : Nat × va_E := (a, .inl (cJ, n, .inr (.inl (fun i => zj (f i : Nat)))))
abbrev oc (a ci : Nat) (fs : List Value) : Nat × va_E := (a, .inr (ci, fs))
abbrev vi (z : Int) : Value := .int (zi z)
abbrev vj (z : Int) : Value := .long (zj z)
def un (f : Nat → Nat) (k x : Nat) : Nat → Nat := fun j => if j = k then x else f j
theorem un_i (f : Nat → Nat) (k x : Nat) : upd (fun i => zi (f i : Nat)) k (zi (x : Nat)) = fun i => zi (un f k x i : Nat) := by
  funext j; unfold upd un; by_cases h : j = k
  · rw [if_pos h, if_pos h]
  · rw [if_neg h, if_neg h]
theorem un_j (f : Nat → Nat) (k x : Nat) : vp_updL (fun i => zj (f i : Nat)) k (zj (x : Nat)) = fun i => zj (un f k x i : Nat) := by
  funext j; unfold vp_updL un; by_cases h : j = k
  · rw [if_pos h, if_pos h]
  · rw [if_neg h, if_neg h]
section Layer
variable {K : Kx} {cI cJ : ClassId} {cc : ByteArray} {nL : Nat} {own : String} {rm : Room} {ws : va_W} {k n pc : Nat} {lv : List (Nat × Value)} {st : List Value}
theorem qv_lv (ks : List Nat) {lv' : List (Nat × Value)} (hl : lv_pick lv ks = lv') (h : V K nL ws k n pc lv' st) : V K nL ws k n pc lv st := by
  obtain ⟨p, l, e, R, s, m, args, below, meth, c, D, A, Q⟩ := K
  intro H locs ls hP hD hS hl0
  exact h H locs ls hP hD hS (lv_sub hl0 ks hl)
theorem qv_ws (is : List Nat) {ws' : va_W} (hn : va_nd is = true) (hs : is.map (fun i => ws[i]?) = ws'.map some) (h : V K nL ws' k n pc lv st) : V K nL ws k n pc lv st := by
  obtain ⟨p, l, e, R, s, m, args, below, meth, c, D, A, Q⟩ := K
  intro H locs ls hP hD hS hl0
  refine h H locs ls (hP.sub is ?_) (hD.sub is hn hs) hS hl0
  have h1 : ∀ (is : List Nat) (ws' : va_W), is.map (fun i => ws[i]?) = ws'.map some → is.filterMap (fun i => ws[i]?) = ws' := by
    intro is
    induction is with
    | nil => intro ws' h; cases ws' with
      | nil => rfl
      | cons a t => cases h
    | cons i is ih => intro ws' h; cases ws' with
      | nil => cases h
      | cons a t =>
        rw [List.map_cons, List.map_cons] at h
        injection h with h1 h2
        rw [List.filterMap_cons, h1]
        show a :: List.filterMap _ is = a :: t
        rw [ih t h2]
  exact h1 is ws' hs
theorem qv_eq {ws' : va_W} {k' n' pc' : Nat} {lv' : List (Nat × Value)} {st' : List Value} (h : V K nL ws' k' n' pc' lv' st') (h1 : ws = ws') (h2 : lv = lv') (h3 : st = st') (h4 : pc = pc' := by rfl) (h5 : k = k' := by rfl) (h6 : n = n' := by rfl) : V K nL ws k n pc lv st := by
  subst h1 h2 h3 h4 h5 h6; exact h
theorem qv_wide {k' n' : Nat} (h1 : k ≤ k') (h2 : n ≤ n') (h : V K nL ws k' n' pc lv st) : V K nL ws k n pc lv st := by
  obtain ⟨p, l, e, R, s, m, args, below, meth, c, D, A, Q⟩ := K
  intro H locs ls hP hD hS hl0
  exact W.widen h1 h2 (h H locs ls hP hD hS hl0)
theorem qv_iconst (C : Cx K cI cJ cc nL own rm) {z : Int} (d : decode cc pc = .ok (.iconst z, 1)) (h : V K nL ws k n (pc + 1) lv (vi z :: st)) : V K nL ws k n pc lv st := by
  obtain ⟨p, l, e, R, s, m, args, below, meth, c, D, A, Q⟩ := K
  obtain ⟨hx, hb, hml, hown, hts, hK, hA, hR, hnw⟩ := C
  intro H locs ls hP hD hS hl
  exact lv_iconst hx hb d rfl (h H locs ls hP hD hS hl)
theorem qv_bipush (C : Cx K cI cJ cc nL own rm) {z : Int} (hz : (Int8.ofInt z).toInt32 = zi z) (d : decode cc pc = .ok (.bipush z, 2)) (h : V K nL ws k n (pc + 2) lv (vi z :: st)) : V K nL ws k n pc lv st := by
  obtain ⟨p, l, e, R, s, m, args, below, meth, c, D, A, Q⟩ := K
  obtain ⟨hx, hb, hml, hown, hts, hK, hA, hR, hnw⟩ := C
  intro H locs ls hP hD hS hl
  exact lv_bipush hx hb d hz (h H locs ls hP hD hS hl)
theorem qv_sipush (C : Cx K cI cJ cc nL own rm) {z : Int} (hz : (Int16.ofInt z).toInt32 = zi z) (d : decode cc pc = .ok (.sipush z, 3)) (h : V K nL ws k n (pc + 3) lv (vi z :: st)) : V K nL ws k n pc lv st := by
  obtain ⟨p, l, e, R, s, m, args, below, meth, c, D, A, Q⟩ := K
  obtain ⟨hx, hb, hml, hown, hts, hK, hA, hR, hnw⟩ := C
  intro H locs ls hP hD hS hl
  exact lv_sipush hx hb d hz (h H locs ls hP hD hS hl)
theorem qv_lconst (C : Cx K cI cJ cc nL own rm) {i : Fin 2} {z : Int} (hz : Int64.ofNat (i : Nat) = zj z) (d : decode cc pc = .ok (.lconst i, 1)) (h : V K nL ws k n (pc + 1) lv (vj z :: st)) : V K nL ws k n pc lv st := by
  obtain ⟨p, l, e, R, s, m, args, below, meth, c, D, A, Q⟩ := K
  obtain ⟨hx, hb, hml, hown, hts, hK, hA, hR, hnw⟩ := C
  intro H locs ls hP hD hS hl
  exact lv_lconst hx hb d hz (h H locs ls hP hD hS hl)
theorem qv_ldc (C : Cx K cI cJ cc nL own rm) {ix : Nat} {z : Int} (hw : Cond.constant own ix (zi z) ∈ al) (d : decode cc pc = .ok (.ldc ix, 2)) (h : V K nL ws k n (pc + 2) lv (vi z :: st)) : V K nL ws k n pc lv st := by
  obtain ⟨p, l, e, R, s, m, args, below, meth, c, D, A, Q⟩ := K
  obtain ⟨hx, hb, hml, hown, hts, hK, hA, hR, hnw⟩ := C
  intro H locs ls hP hD hS hl
  exact lv_ldc hx hb hown (hts _ hw) d (h H locs ls hP hD hS hl)
theorem qv_ldcw (C : Cx K cI cJ cc nL own rm) {ix : Nat} {z : Int} (hw : Cond.constant own ix (zi z) ∈ al) (d : decode cc pc = .ok (.ldc_w ix, 3)) (h : V K nL ws k n (pc + 3) lv (vi z :: st)) : V K nL ws k n pc lv st := by
  obtain ⟨p, l, e, R, s, m, args, below, meth, c, D, A, Q⟩ := K
  obtain ⟨hx, hb, hml, hown, hts, hK, hA, hR, hnw⟩ := C
  intro H locs ls hP hD hS hl
  exact lv_ldcw hx hb hown (hts _ hw) d (h H locs ls hP hD hS hl)
theorem qv_ldc2 (C : Cx K cI cJ cc nL own rm) {ix : Nat} {z : Int} (hw : Cond.constantLong own ix (zj z) ∈ al) (d : decode cc pc = .ok (.ldc2_w ix, 3)) (h : V K nL ws k n (pc + 3) lv (vj z :: st)) : V K nL ws k n pc lv st := by
  obtain ⟨p, l, e, R, s, m, args, below, meth, c, D, A, Q⟩ := K
  obtain ⟨hx, hb, hml, hown, hts, hK, hA, hR, hnw⟩ := C
  intro H locs ls hP hD hS hl
  exact lv_ldc2 hx hb hown (hts _ hw) d (h H locs ls hP hD hS hl)
theorem qv_iload_n (C : Cx K cI cJ cc nL own rm) {i : Fin 4} {x : Int32} (hl0 : lk lv i = some (.int x)) (d : decode cc pc = .ok (.iload_n i, 1)) (h : V K nL ws k n (pc + 1) lv (.int x :: st)) : V K nL ws k n pc lv st := by
  obtain ⟨p, l, e, R, s, m, args, below, meth, c, D, A, Q⟩ := K
  obtain ⟨hx, hb, hml, hown, hts, hK, hA, hR, hnw⟩ := C
  intro H locs ls hP hD hS hl
  exact lv_iload_n hx hb d rfl (lk_at hl hl0) (h H locs ls hP hD hS hl)
theorem qv_iload (C : Cx K cI cJ cc nL own rm) {i : Nat} {x : Int32} (hl0 : lk lv i = some (.int x)) (d : decode cc pc = .ok (.iload i, 2)) (h : V K nL ws k n (pc + 2) lv (.int x :: st)) : V K nL ws k n pc lv st := by
  obtain ⟨p, l, e, R, s, m, args, below, meth, c, D, A, Q⟩ := K
  obtain ⟨hx, hb, hml, hown, hts, hK, hA, hR, hnw⟩ := C
  intro H locs ls hP hD hS hl
  exact lv_iload hx hb d (lk_at hl hl0) (h H locs ls hP hD hS hl)
theorem qv_lload_n (C : Cx K cI cJ cc nL own rm) {i : Fin 4} {x : Int64} (hl0 : lk lv i = some (.long x)) (d : decode cc pc = .ok (.lload_n i, 1)) (h : V K nL ws k n (pc + 1) lv (.long x :: st)) : V K nL ws k n pc lv st := by
  obtain ⟨p, l, e, R, s, m, args, below, meth, c, D, A, Q⟩ := K
  obtain ⟨hx, hb, hml, hown, hts, hK, hA, hR, hnw⟩ := C
  intro H locs ls hP hD hS hl
  exact lv_lload_n hx hb d rfl (lk_at hl hl0) (h H locs ls hP hD hS hl)
theorem qv_lload (C : Cx K cI cJ cc nL own rm) {i : Nat} {x : Int64} (hl0 : lk lv i = some (.long x)) (d : decode cc pc = .ok (.lload i, 2)) (h : V K nL ws k n (pc + 2) lv (.long x :: st)) : V K nL ws k n pc lv st := by
  obtain ⟨p, l, e, R, s, m, args, below, meth, c, D, A, Q⟩ := K
  obtain ⟨hx, hb, hml, hown, hts, hK, hA, hR, hnw⟩ := C
  intro H locs ls hP hD hS hl
  exact lv_lload hx hb d (lk_at hl hl0) (h H locs ls hP hD hS hl)
theorem qv_aload_n (C : Cx K cI cJ cc nL own rm) {i : Fin 4} {x : Nat} (hl0 : lk lv i = some (.ref x)) (d : decode cc pc = .ok (.aload_n i, 1)) (h : V K nL ws k n (pc + 1) lv (.ref x :: st)) : V K nL ws k n pc lv st := by
  obtain ⟨p, l, e, R, s, m, args, below, meth, c, D, A, Q⟩ := K
  obtain ⟨hx, hb, hml, hown, hts, hK, hA, hR, hnw⟩ := C
  intro H locs ls hP hD hS hl
  exact lv_aload_n hx hb d rfl (lk_at hl hl0) (h H locs ls hP hD hS hl)
theorem qv_aload (C : Cx K cI cJ cc nL own rm) {i : Nat} {x : Nat} (hl0 : lk lv i = some (.ref x)) (d : decode cc pc = .ok (.aload i, 2)) (h : V K nL ws k n (pc + 2) lv (.ref x :: st)) : V K nL ws k n pc lv st := by
  obtain ⟨p, l, e, R, s, m, args, below, meth, c, D, A, Q⟩ := K
  obtain ⟨hx, hb, hml, hown, hts, hK, hA, hR, hnw⟩ := C
  intro H locs ls hP hD hS hl
  exact lv_aload hx hb d (lk_at hl hl0) (h H locs ls hP hD hS hl)
theorem qv_istore_n (C : Cx K cI cJ cc nL own rm) {i : Fin 4} {x : Int32} {lv' : List (Nat × Value)} (hn : i.val < nL) (hv : ((i : Nat), Value.int x) :: lv.filter (fun q => !(q.1 == (i : Nat)) && !(q.1 + 1 == (i : Nat) && q.2.category == 2)) = lv') (d : decode cc pc = .ok (.istore_n i, 1)) (h : V K nL ws k n (pc + 1) lv' st) : V K nL ws k n pc lv (Value.int x :: st) := by
  obtain ⟨p, l, e, R, s, m, args, below, meth, c, D, A, Q⟩ := K
  obtain ⟨hx, hb, hml, hown, hts, hK, hA, hR, hnw⟩ := C
  intro H locs ls hP hD hS hl
  exact lv_istore_n hx hb d rfl hl hn hv (fun ls' hl' => h H locs ls' hP hD hS hl')
theorem qv_istore (C : Cx K cI cJ cc nL own rm) {i : Nat} {x : Int32} {lv' : List (Nat × Value)} (hn : i < nL) (hv : (i, Value.int x) :: lv.filter (fun q => !(q.1 == i) && !(q.1 + 1 == i && q.2.category == 2)) = lv') (d : decode cc pc = .ok (.istore i, 2)) (h : V K nL ws k n (pc + 2) lv' st) : V K nL ws k n pc lv (Value.int x :: st) := by
  obtain ⟨p, l, e, R, s, m, args, below, meth, c, D, A, Q⟩ := K
  obtain ⟨hx, hb, hml, hown, hts, hK, hA, hR, hnw⟩ := C
  intro H locs ls hP hD hS hl
  exact lv_istore hx hb d hl hn hv (fun ls' hl' => h H locs ls' hP hD hS hl')
theorem qv_lstore_n (C : Cx K cI cJ cc nL own rm) {i : Fin 4} {x : Int64} {lv' : List (Nat × Value)} (hn : i.val + 1 < nL) (hv : ((i : Nat), Value.long x) :: lv.filter (fun q => !(q.1 == (i : Nat)) && (!(q.1 == (i : Nat) + 1) && !(q.1 + 1 == (i : Nat) && q.2.category == 2))) = lv') (d : decode cc pc = .ok (.lstore_n i, 1)) (h : V K nL ws k n (pc + 1) lv' st) : V K nL ws k n pc lv (Value.long x :: st) := by
  obtain ⟨p, l, e, R, s, m, args, below, meth, c, D, A, Q⟩ := K
  obtain ⟨hx, hb, hml, hown, hts, hK, hA, hR, hnw⟩ := C
  intro H locs ls hP hD hS hl
  exact lv_lstore_n hx hb d rfl hl hn hv (fun ls' hl' => h H locs ls' hP hD hS hl')
theorem qv_lstore (C : Cx K cI cJ cc nL own rm) {i : Nat} {x : Int64} {lv' : List (Nat × Value)} (hn : i + 1 < nL) (hv : (i, Value.long x) :: lv.filter (fun q => !(q.1 == i) && (!(q.1 == i + 1) && !(q.1 + 1 == i && q.2.category == 2))) = lv') (d : decode cc pc = .ok (.lstore i, 2)) (h : V K nL ws k n (pc + 2) lv' st) : V K nL ws k n pc lv (Value.long x :: st) := by
  obtain ⟨p, l, e, R, s, m, args, below, meth, c, D, A, Q⟩ := K
  obtain ⟨hx, hb, hml, hown, hts, hK, hA, hR, hnw⟩ := C
  intro H locs ls hP hD hS hl
  exact lv_lstore hx hb d hl hn hv (fun ls' hl' => h H locs ls' hP hD hS hl')
theorem qv_astore_n (C : Cx K cI cJ cc nL own rm) {i : Fin 4} {x : Nat} {lv' : List (Nat × Value)} (hn : i.val < nL) (hv : ((i : Nat), Value.ref x) :: lv.filter (fun q => !(q.1 == (i : Nat)) && !(q.1 + 1 == (i : Nat) && q.2.category == 2)) = lv') (d : decode cc pc = .ok (.astore_n i, 1)) (h : V K nL ws k n (pc + 1) lv' st) : V K nL ws k n pc lv (Value.ref x :: st) := by
  obtain ⟨p, l, e, R, s, m, args, below, meth, c, D, A, Q⟩ := K
  obtain ⟨hx, hb, hml, hown, hts, hK, hA, hR, hnw⟩ := C
  intro H locs ls hP hD hS hl
  exact lv_astore_n hx hb d rfl hl hn hv (fun ls' hl' => h H locs ls' hP hD hS hl')
theorem qv_astore (C : Cx K cI cJ cc nL own rm) {i : Nat} {x : Nat} {lv' : List (Nat × Value)} (hn : i < nL) (hv : (i, Value.ref x) :: lv.filter (fun q => !(q.1 == i) && !(q.1 + 1 == i && q.2.category == 2)) = lv') (d : decode cc pc = .ok (.astore i, 2)) (h : V K nL ws k n (pc + 2) lv' st) : V K nL ws k n pc lv (Value.ref x :: st) := by
  obtain ⟨p, l, e, R, s, m, args, below, meth, c, D, A, Q⟩ := K
  obtain ⟨hx, hb, hml, hown, hts, hK, hA, hR, hnw⟩ := C
  intro H locs ls hP hD hS hl
  exact lv_astore hx hb d hl hn hv (fun ls' hl' => h H locs ls' hP hD hS hl')
theorem qv_iinc (C : Cx K cI cJ cc nL own rm) {i j : Nat} {a z r : Int} {lv' : List (Nat × Value)} (er : a + z = r) (hj : lv[j]? = some (i, vi a)) (hn : i < nL) (hv : (i, vi r) :: lv.filter (fun q => !(q.1 == i) && !(q.1 + 1 == i && q.2.category == 2)) = lv') (d : decode cc pc = .ok (.iinc i z, 3)) (h : V K nL ws k n (pc + 3) lv' st) : V K nL ws k n pc lv st := by
  obtain ⟨p, l, e, R, s, m, args, below, meth, c, D, A, Q⟩ := K
  obtain ⟨hx, hb, hml, hown, hts, hK, hA, hR, hnw⟩ := C
  intro H locs ls hP hD hS hl
  subst er
  exact lv_iinc hx hb d hl hj (zi_add a z) hn hv (fun ls' hl' => h H locs ls' hP hD hS hl')
theorem qv_iincW (C : Cx K cI cJ cc nL own rm) {i j : Nat} {a z r : Int} {lv' : List (Nat × Value)} (er : a + z = r) (hj : lv[j]? = some (i, vi a)) (hn : i < nL) (hv : (i, vi r) :: lv.filter (fun q => !(q.1 == i) && !(q.1 + 1 == i && q.2.category == 2)) = lv') (d : decode cc pc = .ok (.iinc i z, 6)) (h : V K nL ws k n (pc + 6) lv' st) : V K nL ws k n pc lv st := by
  obtain ⟨p, l, e, R, s, m, args, below, meth, c, D, A, Q⟩ := K
  obtain ⟨hx, hb, hml, hown, hts, hK, hA, hR, hnw⟩ := C
  intro H locs ls hP hD hS hl
  subst er
  exact lv_iincW hx hb d hl hj (zi_add a z) hn hv (fun ls' hl' => h H locs ls' hP hD hS hl')
theorem qv_iadd (C : Cx K cI cJ cc nL own rm) {a b r : Int} (er : a + b = r) (d : decode cc pc = .ok (.iadd, 1)) (h : V K nL ws k n (pc + 1) lv (vi r :: st)) : V K nL ws k n pc lv (vi b :: vi a :: st) := by
  subst er
  obtain ⟨p, l, e, R, s, m, args, below, meth, c, D, A, Q⟩ := K
  obtain ⟨hx, hb, hml, hown, hts, hK, hA, hR, hnw⟩ := C
  intro H locs ls hP hD hS hl
  refine lv_iadd hx hb d ?_
  rw [zi_add]
  exact h H locs ls hP hD hS hl
theorem qv_isub (C : Cx K cI cJ cc nL own rm) {a b r : Int} (er : a - b = r) (d : decode cc pc = .ok (.isub, 1)) (h : V K nL ws k n (pc + 1) lv (vi r :: st)) : V K nL ws k n pc lv (vi b :: vi a :: st) := by
  subst er
  obtain ⟨p, l, e, R, s, m, args, below, meth, c, D, A, Q⟩ := K
  obtain ⟨hx, hb, hml, hown, hts, hK, hA, hR, hnw⟩ := C
  intro H locs ls hP hD hS hl
  refine lv_isub hx hb d ?_
  rw [zi_sub]
  exact h H locs ls hP hD hS hl
theorem qv_imul (C : Cx K cI cJ cc nL own rm) {a b r : Int} (er : a * b = r) (d : decode cc pc = .ok (.imul, 1)) (h : V K nL ws k n (pc + 1) lv (vi r :: st)) : V K nL ws k n pc lv (vi b :: vi a :: st) := by
  subst er
  obtain ⟨p, l, e, R, s, m, args, below, meth, c, D, A, Q⟩ := K
  obtain ⟨hx, hb, hml, hown, hts, hK, hA, hR, hnw⟩ := C
  intro H locs ls hP hD hS hl
  refine lv_imul hx hb d ?_
  rw [zi_mul]
  exact h H locs ls hP hD hS hl
theorem qv_ladd (C : Cx K cI cJ cc nL own rm) {a b r : Int} (er : a + b = r) (d : decode cc pc = .ok (.ladd, 1)) (h : V K nL ws k n (pc + 1) lv (vj r :: st)) : V K nL ws k n pc lv (vj b :: vj a :: st) := by
  subst er
  obtain ⟨p, l, e, R, s, m, args, below, meth, c, D, A, Q⟩ := K
  obtain ⟨hx, hb, hml, hown, hts, hK, hA, hR, hnw⟩ := C
  intro H locs ls hP hD hS hl
  refine lv_ladd hx hb d ?_
  rw [zj_add]
  exact h H locs ls hP hD hS hl
theorem qv_lsub (C : Cx K cI cJ cc nL own rm) {a b r : Int} (er : a - b = r) (d : decode cc pc = .ok (.lsub, 1)) (h : V K nL ws k n (pc + 1) lv (vj r :: st)) : V K nL ws k n pc lv (vj b :: vj a :: st) := by
  subst er
  obtain ⟨p, l, e, R, s, m, args, below, meth, c, D, A, Q⟩ := K
  obtain ⟨hx, hb, hml, hown, hts, hK, hA, hR, hnw⟩ := C
  intro H locs ls hP hD hS hl
  refine lv_lsub hx hb d ?_
  rw [zj_sub]
  exact h H locs ls hP hD hS hl
theorem qv_lmul (C : Cx K cI cJ cc nL own rm) {a b r : Int} (er : a * b = r) (d : decode cc pc = .ok (.lmul, 1)) (h : V K nL ws k n (pc + 1) lv (vj r :: st)) : V K nL ws k n pc lv (vj b :: vj a :: st) := by
  subst er
  obtain ⟨p, l, e, R, s, m, args, below, meth, c, D, A, Q⟩ := K
  obtain ⟨hx, hb, hml, hown, hts, hK, hA, hR, hnw⟩ := C
  intro H locs ls hP hD hS hl
  refine lv_lmul hx hb d ?_
  rw [zj_mul]
  exact h H locs ls hP hD hS hl
theorem qv_idiv (C : Cx K cI cJ cc nL own rm) {a b r : Int} (ha : 0 ≤ a) (ha2 : a ≤ 2147483647) (hb0 : 0 < b) (hb2 : b ≤ 2147483647) (er : a / b = r) (d : decode cc pc = .ok (.idiv, 1)) (h : V K nL ws k n (pc + 1) lv (vi r :: st)) : V K nL ws k n pc lv (vi b :: vi a :: st) := by
  subst er
  obtain ⟨p, l, e, R, s, m, args, below, meth, c, D, A, Q⟩ := K
  obtain ⟨hx, hb, hml, hown, hts, hK, hA, hR, hnw⟩ := C
  intro H locs ls hP hD hS hl
  refine lv_idiv hx hb d (zi_nz ⟨by omega, hb2⟩ (by omega)) ?_
  rw [zi_div ha ha2 hb0 hb2]
  exact h H locs ls hP hD hS hl
theorem qv_irem (C : Cx K cI cJ cc nL own rm) {a b r : Int} (ha : 0 ≤ a) (ha2 : a ≤ 2147483647) (hb0 : 0 < b) (hb2 : b ≤ 2147483647) (er : a % b = r) (d : decode cc pc = .ok (.irem, 1)) (h : V K nL ws k n (pc + 1) lv (vi r :: st)) : V K nL ws k n pc lv (vi b :: vi a :: st) := by
  subst er
  obtain ⟨p, l, e, R, s, m, args, below, meth, c, D, A, Q⟩ := K
  obtain ⟨hx, hb, hml, hown, hts, hK, hA, hR, hnw⟩ := C
  intro H locs ls hP hD hS hl
  refine lv_irem hx hb d (zi_nz ⟨by omega, hb2⟩ (by omega)) ?_
  rw [zi_rem ha ha2 hb0 hb2]
  exact h H locs ls hP hD hS hl
theorem qv_ldiv (C : Cx K cI cJ cc nL own rm) {a b r : Int} (ha : 0 ≤ a) (ha2 : a ≤ 9223372036854775807) (hb0 : 0 < b) (hb2 : b ≤ 9223372036854775807) (er : a / b = r) (d : decode cc pc = .ok (.ldiv, 1)) (h : V K nL ws k n (pc + 1) lv (vj r :: st)) : V K nL ws k n pc lv (vj b :: vj a :: st) := by
  subst er
  obtain ⟨p, l, e, R, s, m, args, below, meth, c, D, A, Q⟩ := K
  obtain ⟨hx, hb, hml, hown, hts, hK, hA, hR, hnw⟩ := C
  intro H locs ls hP hD hS hl
  refine lv_ldiv hx hb d (zj_nz ⟨by omega, hb2⟩ (by omega)) ?_
  rw [zj_div ha ha2 hb0 hb2]
  exact h H locs ls hP hD hS hl
theorem qv_lrem (C : Cx K cI cJ cc nL own rm) {a b r : Int} (ha : 0 ≤ a) (ha2 : a ≤ 9223372036854775807) (hb0 : 0 < b) (hb2 : b ≤ 9223372036854775807) (er : a % b = r) (d : decode cc pc = .ok (.lrem, 1)) (h : V K nL ws k n (pc + 1) lv (vj r :: st)) : V K nL ws k n pc lv (vj b :: vj a :: st) := by
  subst er
  obtain ⟨p, l, e, R, s, m, args, below, meth, c, D, A, Q⟩ := K
  obtain ⟨hx, hb, hml, hown, hts, hK, hA, hR, hnw⟩ := C
  intro H locs ls hP hD hS hl
  refine lv_lrem hx hb d (zj_nz ⟨by omega, hb2⟩ (by omega)) ?_
  rw [zj_rem ha ha2 hb0 hb2]
  exact h H locs ls hP hD hS hl
theorem qv_ineg (C : Cx K cI cJ cc nL own rm) {a : Int} (d : decode cc pc = .ok (.ineg, 1)) (h : V K nL ws k n (pc + 1) lv (vi (-a) :: st)) : V K nL ws k n pc lv (vi a :: st) := by
  obtain ⟨p, l, e, R, s, m, args, below, meth, c, D, A, Q⟩ := K
  obtain ⟨hx, hb, hml, hown, hts, hK, hA, hR, hnw⟩ := C
  intro H locs ls hP hD hS hl
  refine lv_ineg hx hb d ?_
  rw [zi_neg]
  exact h H locs ls hP hD hS hl
theorem qv_i2l (C : Cx K cI cJ cc nL own rm) {a : Int} (ha : ri a) (d : decode cc pc = .ok (.i2l, 1)) (h : V K nL ws k n (pc + 1) lv (vj a :: st)) : V K nL ws k n pc lv (vi a :: st) := by
  obtain ⟨p, l, e, R, s, m, args, below, meth, c, D, A, Q⟩ := K
  obtain ⟨hx, hb, hml, hown, hts, hK, hA, hR, hnw⟩ := C
  intro H locs ls hP hD hS hl
  exact lv_i2l hx hb d (zi_zj ha) (h H locs ls hP hD hS hl)
theorem qv_l2i (C : Cx K cI cJ cc nL own rm) {a : Int} (d : decode cc pc = .ok (.l2i, 1)) (h : V K nL ws k n (pc + 1) lv (vi a :: st)) : V K nL ws k n pc lv (vj a :: st) := by
  obtain ⟨p, l, e, R, s, m, args, below, meth, c, D, A, Q⟩ := K
  obtain ⟨hx, hb, hml, hown, hts, hK, hA, hR, hnw⟩ := C
  intro H locs ls hP hD hS hl
  exact lv_l2i hx hb d (zj_zi a) (h H locs ls hP hD hS hl)
theorem qv_lshl (C : Cx K cI cJ cc nL own rm) {a b : Int} (x y : Nat) (hx1 : a = (x : Int)) (hy1 : b = (y : Int)) (hy : y < 64) (d : decode cc pc = .ok (.lshl, 1)) (h : V K nL ws k n (pc + 1) lv (vj ((x * 2 ^ y : Nat) : Int) :: st)) : V K nL ws k n pc lv (vi b :: vj a :: st) := by
  obtain ⟨p, l, e, R, s, m, args, below, meth, c, D, A, Q⟩ := K
  obtain ⟨hx, hb, hml, hown, hts, hK, hA, hR, hnw⟩ := C
  intro H locs ls hP hD hS hl
  subst hx1 hy1
  exact lv_lshl hx hb d (zj_shl hy) (h H locs ls hP hD hS hl)
theorem qv_lushr (C : Cx K cI cJ cc nL own rm) {a b : Int} (x y : Nat) (hx1 : a = (x : Int)) (hx2 : x < 18446744073709551616) (hy1 : b = (y : Int)) (hy : y < 64) (d : decode cc pc = .ok (.lushr, 1)) (h : V K nL ws k n (pc + 1) lv (vj ((x / 2 ^ y : Nat) : Int) :: st)) : V K nL ws k n pc lv (vi b :: vj a :: st) := by
  obtain ⟨p, l, e, R, s, m, args, below, meth, c, D, A, Q⟩ := K
  obtain ⟨hx, hb, hml, hown, hts, hK, hA, hR, hnw⟩ := C
  intro H locs ls hP hD hS hl
  subst hx1 hy1
  exact lv_lushr hx hb d (zj_ushr hx2 hy) (h H locs ls hP hD hS hl)
theorem qv_land (C : Cx K cI cJ cc nL own rm) {a b : Int} {r : Int} (hr : zj a &&& zj b = zj r) (d : decode cc pc = .ok (.land, 1)) (h : V K nL ws k n (pc + 1) lv (vj r :: st)) : V K nL ws k n pc lv (vj b :: vj a :: st) := by
  obtain ⟨p, l, e, R, s, m, args, below, meth, c, D, A, Q⟩ := K
  obtain ⟨hx, hb, hml, hown, hts, hK, hA, hR, hnw⟩ := C
  intro H locs ls hP hD hS hl
  refine lv_land hx hb d ?_
  rw [hr]
  exact h H locs ls hP hD hS hl
theorem qv_lor (C : Cx K cI cJ cc nL own rm) {a b : Int} {r : Int} (hr : zj a ||| zj b = zj r) (d : decode cc pc = .ok (.lor, 1)) (h : V K nL ws k n (pc + 1) lv (vj r :: st)) : V K nL ws k n pc lv (vj b :: vj a :: st) := by
  obtain ⟨p, l, e, R, s, m, args, below, meth, c, D, A, Q⟩ := K
  obtain ⟨hx, hb, hml, hown, hts, hK, hA, hR, hnw⟩ := C
  intro H locs ls hP hD hS hl
  refine lv_lor hx hb d ?_
  rw [hr]
  exact h H locs ls hP hD hS hl
theorem qv_iand (C : Cx K cI cJ cc nL own rm) {a b : Int} {r : Int} (hr : zi a &&& zi b = zi r) (d : decode cc pc = .ok (.iand, 1)) (h : V K nL ws k n (pc + 1) lv (vi r :: st)) : V K nL ws k n pc lv (vi b :: vi a :: st) := by
  obtain ⟨p, l, e, R, s, m, args, below, meth, c, D, A, Q⟩ := K
  obtain ⟨hx, hb, hml, hown, hts, hK, hA, hR, hnw⟩ := C
  intro H locs ls hP hD hS hl
  refine lv_iand hx hb d ?_
  rw [hr]
  exact h H locs ls hP hD hS hl
theorem qv_ior (C : Cx K cI cJ cc nL own rm) {a b : Int} {r : Int} (hr : zi a ||| zi b = zi r) (d : decode cc pc = .ok (.ior, 1)) (h : V K nL ws k n (pc + 1) lv (vi r :: st)) : V K nL ws k n pc lv (vi b :: vi a :: st) := by
  obtain ⟨p, l, e, R, s, m, args, below, meth, c, D, A, Q⟩ := K
  obtain ⟨hx, hb, hml, hown, hts, hK, hA, hR, hnw⟩ := C
  intro H locs ls hP hD hS hl
  refine lv_ior hx hb d ?_
  rw [hr]
  exact h H locs ls hP hD hS hl
theorem qv_lcmp (C : Cx K cI cJ cc nL own rm) {a b : Int} (ha : rj a) (hb0 : rj b) (d : decode cc pc = .ok (.lcmp, 1)) (h : V K nL ws k n (pc + 1) lv (vi (if b < a then 1 else if a = b then 0 else -1) :: st)) : V K nL ws k n pc lv (vj b :: vj a :: st) := by
  obtain ⟨p, l, e, R, s, m, args, below, meth, c, D, A, Q⟩ := K
  obtain ⟨hx, hb, hml, hown, hts, hK, hA, hR, hnw⟩ := C
  intro H locs ls hP hD hS hl
  refine W.lcmp hx hb d ?_
  rw [zj_cmp ha hb0]
  exact h H locs ls hP hD hS hl
theorem qv_dup (C : Cx K cI cJ cc nL own rm) {v : Value} (hv : v.category = 1) (d : decode cc pc = .ok (.dup, 1)) (h : V K nL ws k n (pc + 1) lv (v :: v :: st)) : V K nL ws k n pc lv (v :: st) := by
  obtain ⟨p, l, e, R, s, m, args, below, meth, c, D, A, Q⟩ := K
  obtain ⟨hx, hb, hml, hown, hts, hK, hA, hR, hnw⟩ := C
  intro H locs ls hP hD hS hl
  exact lv_dup hx hb d hv (h H locs ls hP hD hS hl)
theorem qv_pop (C : Cx K cI cJ cc nL own rm) {v : Value} (hv : v.category = 1) (d : decode cc pc = .ok (.pop, 1)) (h : V K nL ws k n (pc + 1) lv st) : V K nL ws k n pc lv (v :: st) := by
  obtain ⟨p, l, e, R, s, m, args, below, meth, c, D, A, Q⟩ := K
  obtain ⟨hx, hb, hml, hown, hts, hK, hA, hR, hnw⟩ := C
  intro H locs ls hP hD hS hl
  exact lv_pop hx hb d hv (h H locs ls hP hD hS hl)
theorem qv_pop2 (C : Cx K cI cJ cc nL own rm) {v : Value} (hv : v.category = 2) (d : decode cc pc = .ok (.pop2, 1)) (h : V K nL ws k n (pc + 1) lv st) : V K nL ws k n pc lv (v :: st) := by
  obtain ⟨p, l, e, R, s, m, args, below, meth, c, D, A, Q⟩ := K
  obtain ⟨hx, hb, hml, hown, hts, hK, hA, hR, hnw⟩ := C
  intro H locs ls hP hD hS hl
  exact lv_pop2_2 hx hb d hv (h H locs ls hP hD hS hl)
theorem qv_dup_x1 (C : Cx K cI cJ cc nL own rm) {v u : Value} (hv : v.category = 1) (hu : u.category = 1) (d : decode cc pc = .ok (.dup_x1, 1)) (h : V K nL ws k n (pc + 1) lv (v :: u :: v :: st)) : V K nL ws k n pc lv (v :: u :: st) := by
  obtain ⟨p, l, e, R, s, m, args, below, meth, c, D, A, Q⟩ := K
  obtain ⟨hx, hb, hml, hown, hts, hK, hA, hR, hnw⟩ := C
  intro H locs ls hP hD hS hl
  exact lv_dup_x1 hx hb d hv hu (h H locs ls hP hD hS hl)
theorem qv_dup2 (C : Cx K cI cJ cc nL own rm) {v u : Value} (hv : v.category = 1) (hu : u.category = 1) (d : decode cc pc = .ok (.dup2, 1)) (h : V K nL ws k n (pc + 1) lv (v :: u :: v :: u :: st)) : V K nL ws k n pc lv (v :: u :: st) := by
  obtain ⟨p, l, e, R, s, m, args, below, meth, c, D, A, Q⟩ := K
  obtain ⟨hx, hb, hml, hown, hts, hK, hA, hR, hnw⟩ := C
  intro H locs ls hP hD hS hl
  exact lv_dup2_11 hx hb d hv hu (h H locs ls hP hD hS hl)
theorem qv_dup2L (C : Cx K cI cJ cc nL own rm) {v : Value} (hv : v.category = 2) (d : decode cc pc = .ok (.dup2, 1)) (h : V K nL ws k n (pc + 1) lv (v :: v :: st)) : V K nL ws k n pc lv (v :: st) := by
  obtain ⟨p, l, e, R, s, m, args, below, meth, c, D, A, Q⟩ := K
  obtain ⟨hx, hb, hml, hown, hts, hK, hA, hR, hnw⟩ := C
  intro H locs ls hP hD hS hl
  exact lv_dup2_2 hx hb d hv (h H locs ls hP hD hS hl)
theorem qv_ifeq (C : Cx K cI cJ cc nL own rm) {a off : Int} {tgt : Nat} (ha : ri a) (ht : (pc : Int) + off = (tgt : Int)) (d : decode cc pc = .ok (.ifCond .eq off, 3)) (h1 : a = 0 → V K nL ws k n tgt lv st) (h2 : ¬ a = 0 → V K nL ws k n (pc + 3) lv st) : V K nL ws k n pc lv (vi a :: st) := by
  obtain ⟨p, l, e, R, s, m, args, below, meth, c, D, A, Q⟩ := K
  obtain ⟨hx, hb, hml, hown, hts, hK, hA, hR, hnw⟩ := C
  intro H locs ls hP hD hS hl
  have e0 : zi a = 0 ↔ a = 0 := by rw [← zi_0]; exact zi_eq ha (by omega)
  exact lv_if_eq hx hb d ht (fun q => h1 (e0.mp q) H locs ls hP hD hS hl) (fun q => h2 (fun q2 => q (e0.mpr q2)) H locs ls hP hD hS hl)
theorem qv_ifne (C : Cx K cI cJ cc nL own rm) {a off : Int} {tgt : Nat} (ha : ri a) (ht : (pc : Int) + off = (tgt : Int)) (d : decode cc pc = .ok (.ifCond .ne off, 3)) (h1 : a ≠ 0 → V K nL ws k n tgt lv st) (h2 : a = 0 → V K nL ws k n (pc + 3) lv st) : V K nL ws k n pc lv (vi a :: st) := by
  obtain ⟨p, l, e, R, s, m, args, below, meth, c, D, A, Q⟩ := K
  obtain ⟨hx, hb, hml, hown, hts, hK, hA, hR, hnw⟩ := C
  intro H locs ls hP hD hS hl
  have e0 : zi a = 0 ↔ a = 0 := by rw [← zi_0]; exact zi_eq ha (by omega)
  exact lv_if_ne hx hb d ht (fun q => h1 (fun q2 => q (e0.mpr q2)) H locs ls hP hD hS hl) (fun q => h2 (e0.mp q) H locs ls hP hD hS hl)
theorem qv_iflt (C : Cx K cI cJ cc nL own rm) {a off : Int} {tgt : Nat} (ha : ri a) (ht : (pc : Int) + off = (tgt : Int)) (d : decode cc pc = .ok (.ifCond .lt off, 3)) (h1 : a < 0 → V K nL ws k n tgt lv st) (h2 : ¬ a < 0 → V K nL ws k n (pc + 3) lv st) : V K nL ws k n pc lv (vi a :: st) := by
  obtain ⟨p, l, e, R, s, m, args, below, meth, c, D, A, Q⟩ := K
  obtain ⟨hx, hb, hml, hown, hts, hK, hA, hR, hnw⟩ := C
  intro H locs ls hP hD hS hl
  have e0 : zi a < 0 ↔ a < 0 := by rw [← zi_0]; exact zi_lt ha (by omega)
  exact lv_if_lt hx hb d ht (fun q => h1 (e0.mp q) H locs ls hP hD hS hl) (fun q => h2 (fun q2 => q (e0.mpr q2)) H locs ls hP hD hS hl)
theorem qv_ifge (C : Cx K cI cJ cc nL own rm) {a off : Int} {tgt : Nat} (ha : ri a) (ht : (pc : Int) + off = (tgt : Int)) (d : decode cc pc = .ok (.ifCond .ge off, 3)) (h1 : 0 ≤ a → V K nL ws k n tgt lv st) (h2 : ¬ 0 ≤ a → V K nL ws k n (pc + 3) lv st) : V K nL ws k n pc lv (vi a :: st) := by
  obtain ⟨p, l, e, R, s, m, args, below, meth, c, D, A, Q⟩ := K
  obtain ⟨hx, hb, hml, hown, hts, hK, hA, hR, hnw⟩ := C
  intro H locs ls hP hD hS hl
  have e0 : (0 : Int32) ≤ zi a ↔ 0 ≤ a := by rw [← zi_0]; exact zi_le (by omega) ha
  exact lv_if_ge hx hb d ht (fun q => h1 (e0.mp q) H locs ls hP hD hS hl) (fun q => h2 (fun q2 => q (e0.mpr q2)) H locs ls hP hD hS hl)
theorem qv_ifgt (C : Cx K cI cJ cc nL own rm) {a off : Int} {tgt : Nat} (ha : ri a) (ht : (pc : Int) + off = (tgt : Int)) (d : decode cc pc = .ok (.ifCond .gt off, 3)) (h1 : 0 < a → V K nL ws k n tgt lv st) (h2 : ¬ 0 < a → V K nL ws k n (pc + 3) lv st) : V K nL ws k n pc lv (vi a :: st) := by
  obtain ⟨p, l, e, R, s, m, args, below, meth, c, D, A, Q⟩ := K
  obtain ⟨hx, hb, hml, hown, hts, hK, hA, hR, hnw⟩ := C
  intro H locs ls hP hD hS hl
  have e0 : (0 : Int32) < zi a ↔ 0 < a := by rw [← zi_0]; exact zi_lt (by omega) ha
  exact lv_if_gt hx hb d ht (fun q => h1 (e0.mp q) H locs ls hP hD hS hl) (fun q => h2 (fun q2 => q (e0.mpr q2)) H locs ls hP hD hS hl)
theorem qv_ifle (C : Cx K cI cJ cc nL own rm) {a off : Int} {tgt : Nat} (ha : ri a) (ht : (pc : Int) + off = (tgt : Int)) (d : decode cc pc = .ok (.ifCond .le off, 3)) (h1 : a ≤ 0 → V K nL ws k n tgt lv st) (h2 : ¬ a ≤ 0 → V K nL ws k n (pc + 3) lv st) : V K nL ws k n pc lv (vi a :: st) := by
  obtain ⟨p, l, e, R, s, m, args, below, meth, c, D, A, Q⟩ := K
  obtain ⟨hx, hb, hml, hown, hts, hK, hA, hR, hnw⟩ := C
  intro H locs ls hP hD hS hl
  have e0 : zi a ≤ 0 ↔ a ≤ 0 := by rw [← zi_0]; exact zi_le ha (by omega)
  exact lv_if_le hx hb d ht (fun q => h1 (e0.mp q) H locs ls hP hD hS hl) (fun q => h2 (fun q2 => q (e0.mpr q2)) H locs ls hP hD hS hl)
theorem qv_iceq (C : Cx K cI cJ cc nL own rm) {a b off : Int} {tgt : Nat} (ha : ri a) (hb0 : ri b) (ht : (pc : Int) + off = (tgt : Int)) (d : decode cc pc = .ok (.if_icmp .eq off, 3)) (h1 : a = b → V K nL ws k n tgt lv st) (h2 : ¬ a = b → V K nL ws k n (pc + 3) lv st) : V K nL ws k n pc lv (vi b :: vi a :: st) := by
  obtain ⟨p, l, e, R, s, m, args, below, meth, c, D, A, Q⟩ := K
  obtain ⟨hx, hb, hml, hown, hts, hK, hA, hR, hnw⟩ := C
  intro H locs ls hP hD hS hl
  have e0 : zi a = zi b ↔ a = b := zi_eq ha hb0
  exact lv_icmp_eq hx hb d ht (fun q => h1 (e0.mp q) H locs ls hP hD hS hl) (fun q => h2 (fun q2 => q (e0.mpr q2)) H locs ls hP hD hS hl)
theorem qv_icne (C : Cx K cI cJ cc nL own rm) {a b off : Int} {tgt : Nat} (ha : ri a) (hb0 : ri b) (ht : (pc : Int) + off = (tgt : Int)) (d : decode cc pc = .ok (.if_icmp .ne off, 3)) (h1 : a ≠ b → V K nL ws k n tgt lv st) (h2 : a = b → V K nL ws k n (pc + 3) lv st) : V K nL ws k n pc lv (vi b :: vi a :: st) := by
  obtain ⟨p, l, e, R, s, m, args, below, meth, c, D, A, Q⟩ := K
  obtain ⟨hx, hb, hml, hown, hts, hK, hA, hR, hnw⟩ := C
  intro H locs ls hP hD hS hl
  have e0 : zi a = zi b ↔ a = b := zi_eq ha hb0
  exact lv_icmp_ne hx hb d ht (fun q => h1 (fun q2 => q (e0.mpr q2)) H locs ls hP hD hS hl) (fun q => h2 (e0.mp q) H locs ls hP hD hS hl)
theorem qv_iclt (C : Cx K cI cJ cc nL own rm) {a b off : Int} {tgt : Nat} (ha : ri a) (hb0 : ri b) (ht : (pc : Int) + off = (tgt : Int)) (d : decode cc pc = .ok (.if_icmp .lt off, 3)) (h1 : a < b → V K nL ws k n tgt lv st) (h2 : ¬ a < b → V K nL ws k n (pc + 3) lv st) : V K nL ws k n pc lv (vi b :: vi a :: st) := by
  obtain ⟨p, l, e, R, s, m, args, below, meth, c, D, A, Q⟩ := K
  obtain ⟨hx, hb, hml, hown, hts, hK, hA, hR, hnw⟩ := C
  intro H locs ls hP hD hS hl
  have e0 : zi a < zi b ↔ a < b := zi_lt ha hb0
  exact lv_icmp_lt hx hb d ht (fun q => h1 (e0.mp q) H locs ls hP hD hS hl) (fun q => h2 (fun q2 => q (e0.mpr q2)) H locs ls hP hD hS hl)
theorem qv_icge (C : Cx K cI cJ cc nL own rm) {a b off : Int} {tgt : Nat} (ha : ri a) (hb0 : ri b) (ht : (pc : Int) + off = (tgt : Int)) (d : decode cc pc = .ok (.if_icmp .ge off, 3)) (h1 : b ≤ a → V K nL ws k n tgt lv st) (h2 : ¬ b ≤ a → V K nL ws k n (pc + 3) lv st) : V K nL ws k n pc lv (vi b :: vi a :: st) := by
  obtain ⟨p, l, e, R, s, m, args, below, meth, c, D, A, Q⟩ := K
  obtain ⟨hx, hb, hml, hown, hts, hK, hA, hR, hnw⟩ := C
  intro H locs ls hP hD hS hl
  have e0 : zi b ≤ zi a ↔ b ≤ a := zi_le hb0 ha
  exact lv_icmp_ge hx hb d ht (fun q => h1 (e0.mp q) H locs ls hP hD hS hl) (fun q => h2 (fun q2 => q (e0.mpr q2)) H locs ls hP hD hS hl)
theorem qv_icgt (C : Cx K cI cJ cc nL own rm) {a b off : Int} {tgt : Nat} (ha : ri a) (hb0 : ri b) (ht : (pc : Int) + off = (tgt : Int)) (d : decode cc pc = .ok (.if_icmp .gt off, 3)) (h1 : b < a → V K nL ws k n tgt lv st) (h2 : ¬ b < a → V K nL ws k n (pc + 3) lv st) : V K nL ws k n pc lv (vi b :: vi a :: st) := by
  obtain ⟨p, l, e, R, s, m, args, below, meth, c, D, A, Q⟩ := K
  obtain ⟨hx, hb, hml, hown, hts, hK, hA, hR, hnw⟩ := C
  intro H locs ls hP hD hS hl
  have e0 : zi b < zi a ↔ b < a := zi_lt hb0 ha
  exact lv_icmp_gt hx hb d ht (fun q => h1 (e0.mp q) H locs ls hP hD hS hl) (fun q => h2 (fun q2 => q (e0.mpr q2)) H locs ls hP hD hS hl)
theorem qv_icle (C : Cx K cI cJ cc nL own rm) {a b off : Int} {tgt : Nat} (ha : ri a) (hb0 : ri b) (ht : (pc : Int) + off = (tgt : Int)) (d : decode cc pc = .ok (.if_icmp .le off, 3)) (h1 : a ≤ b → V K nL ws k n tgt lv st) (h2 : ¬ a ≤ b → V K nL ws k n (pc + 3) lv st) : V K nL ws k n pc lv (vi b :: vi a :: st) := by
  obtain ⟨p, l, e, R, s, m, args, below, meth, c, D, A, Q⟩ := K
  obtain ⟨hx, hb, hml, hown, hts, hK, hA, hR, hnw⟩ := C
  intro H locs ls hP hD hS hl
  have e0 : zi a ≤ zi b ↔ a ≤ b := zi_le ha hb0
  exact lv_icmp_le hx hb d ht (fun q => h1 (e0.mp q) H locs ls hP hD hS hl) (fun q => h2 (fun q2 => q (e0.mpr q2)) H locs ls hP hD hS hl)
theorem qv_goto (C : Cx K cI cJ cc nL own rm) {off : Int} {tgt : Nat} (ht : (pc : Int) + off = (tgt : Int)) (d : decode cc pc = .ok (.goto off, 3)) (h : V K nL ws k n tgt lv st) : V K nL ws k n pc lv st := by
  obtain ⟨p, l, e, R, s, m, args, below, meth, c, D, A, Q⟩ := K
  obtain ⟨hx, hb, hml, hown, hts, hK, hA, hR, hnw⟩ := C
  intro H locs ls hP hD hS hl
  exact lv_goto hx hb d ht (h H locs ls hP hD hS hl)
theorem qv_lceq (C : Cx K cI cJ cc nL own rm) {a b off : Int} {tgt : Nat} (ha : rj a) (hb0 : rj b) (d0 : decode cc pc = .ok (.lcmp, 1)) (ht : ((pc + 1 : Nat) : Int) + off = (tgt : Int)) (d : decode cc (pc + 1) = .ok (.ifCond .eq off, 3)) (h1 : a = b → V K nL ws k n tgt lv st) (h2 : ¬ a = b → V K nL ws k n (pc + 1 + 3) lv st) : V K nL ws k n pc lv (vj b :: vj a :: st) := by
  refine qv_lcmp C ha hb0 d0 ?_
  by_cases g1 : b < a
  · rw [if_pos g1]
    exact qv_ifeq C (by omega) ht d (fun q => h1 (by omega)) (fun q => h2 (by omega))
  · rw [if_neg g1]
    by_cases g2 : a = b
    · rw [if_pos g2]
      exact qv_ifeq C (by omega) ht d (fun q => h1 (by omega)) (fun q => h2 (by omega))
    · rw [if_neg g2]
      exact qv_ifeq C (by omega) ht d (fun q => h1 (by omega)) (fun q => h2 (by omega))
theorem qv_lcne (C : Cx K cI cJ cc nL own rm) {a b off : Int} {tgt : Nat} (ha : rj a) (hb0 : rj b) (d0 : decode cc pc = .ok (.lcmp, 1)) (ht : ((pc + 1 : Nat) : Int) + off = (tgt : Int)) (d : decode cc (pc + 1) = .ok (.ifCond .ne off, 3)) (h1 : a ≠ b → V K nL ws k n tgt lv st) (h2 : a = b → V K nL ws k n (pc + 1 + 3) lv st) : V K nL ws k n pc lv (vj b :: vj a :: st) := by
  refine qv_lcmp C ha hb0 d0 ?_
  by_cases g1 : b < a
  · rw [if_pos g1]
    exact qv_ifne C (by omega) ht d (fun q => h1 (by omega)) (fun q => h2 (by omega))
  · rw [if_neg g1]
    by_cases g2 : a = b
    · rw [if_pos g2]
      exact qv_ifne C (by omega) ht d (fun q => h1 (by omega)) (fun q => h2 (by omega))
    · rw [if_neg g2]
      exact qv_ifne C (by omega) ht d (fun q => h1 (by omega)) (fun q => h2 (by omega))
theorem qv_lclt (C : Cx K cI cJ cc nL own rm) {a b off : Int} {tgt : Nat} (ha : rj a) (hb0 : rj b) (d0 : decode cc pc = .ok (.lcmp, 1)) (ht : ((pc + 1 : Nat) : Int) + off = (tgt : Int)) (d : decode cc (pc + 1) = .ok (.ifCond .lt off, 3)) (h1 : a < b → V K nL ws k n tgt lv st) (h2 : ¬ a < b → V K nL ws k n (pc + 1 + 3) lv st) : V K nL ws k n pc lv (vj b :: vj a :: st) := by
  refine qv_lcmp C ha hb0 d0 ?_
  by_cases g1 : b < a
  · rw [if_pos g1]
    exact qv_iflt C (by omega) ht d (fun q => h1 (by omega)) (fun q => h2 (by omega))
  · rw [if_neg g1]
    by_cases g2 : a = b
    · rw [if_pos g2]
      exact qv_iflt C (by omega) ht d (fun q => h1 (by omega)) (fun q => h2 (by omega))
    · rw [if_neg g2]
      exact qv_iflt C (by omega) ht d (fun q => h1 (by omega)) (fun q => h2 (by omega))
theorem qv_lcge (C : Cx K cI cJ cc nL own rm) {a b off : Int} {tgt : Nat} (ha : rj a) (hb0 : rj b) (d0 : decode cc pc = .ok (.lcmp, 1)) (ht : ((pc + 1 : Nat) : Int) + off = (tgt : Int)) (d : decode cc (pc + 1) = .ok (.ifCond .ge off, 3)) (h1 : b ≤ a → V K nL ws k n tgt lv st) (h2 : ¬ b ≤ a → V K nL ws k n (pc + 1 + 3) lv st) : V K nL ws k n pc lv (vj b :: vj a :: st) := by
  refine qv_lcmp C ha hb0 d0 ?_
  by_cases g1 : b < a
  · rw [if_pos g1]
    exact qv_ifge C (by omega) ht d (fun q => h1 (by omega)) (fun q => h2 (by omega))
  · rw [if_neg g1]
    by_cases g2 : a = b
    · rw [if_pos g2]
      exact qv_ifge C (by omega) ht d (fun q => h1 (by omega)) (fun q => h2 (by omega))
    · rw [if_neg g2]
      exact qv_ifge C (by omega) ht d (fun q => h1 (by omega)) (fun q => h2 (by omega))
theorem qv_lcgt (C : Cx K cI cJ cc nL own rm) {a b off : Int} {tgt : Nat} (ha : rj a) (hb0 : rj b) (d0 : decode cc pc = .ok (.lcmp, 1)) (ht : ((pc + 1 : Nat) : Int) + off = (tgt : Int)) (d : decode cc (pc + 1) = .ok (.ifCond .gt off, 3)) (h1 : b < a → V K nL ws k n tgt lv st) (h2 : ¬ b < a → V K nL ws k n (pc + 1 + 3) lv st) : V K nL ws k n pc lv (vj b :: vj a :: st) := by
  refine qv_lcmp C ha hb0 d0 ?_
  by_cases g1 : b < a
  · rw [if_pos g1]
    exact qv_ifgt C (by omega) ht d (fun q => h1 (by omega)) (fun q => h2 (by omega))
  · rw [if_neg g1]
    by_cases g2 : a = b
    · rw [if_pos g2]
      exact qv_ifgt C (by omega) ht d (fun q => h1 (by omega)) (fun q => h2 (by omega))
    · rw [if_neg g2]
      exact qv_ifgt C (by omega) ht d (fun q => h1 (by omega)) (fun q => h2 (by omega))
theorem qv_lcle (C : Cx K cI cJ cc nL own rm) {a b off : Int} {tgt : Nat} (ha : rj a) (hb0 : rj b) (d0 : decode cc pc = .ok (.lcmp, 1)) (ht : ((pc + 1 : Nat) : Int) + off = (tgt : Int)) (d : decode cc (pc + 1) = .ok (.ifCond .le off, 3)) (h1 : a ≤ b → V K nL ws k n tgt lv st) (h2 : ¬ a ≤ b → V K nL ws k n (pc + 1 + 3) lv st) : V K nL ws k n pc lv (vj b :: vj a :: st) := by
  refine qv_lcmp C ha hb0 d0 ?_
  by_cases g1 : b < a
  · rw [if_pos g1]
    exact qv_ifle C (by omega) ht d (fun q => h1 (by omega)) (fun q => h2 (by omega))
  · rw [if_neg g1]
    by_cases g2 : a = b
    · rw [if_pos g2]
      exact qv_ifle C (by omega) ht d (fun q => h1 (by omega)) (fun q => h2 (by omega))
    · rw [if_neg g2]
      exact qv_ifle C (by omega) ht d (fun q => h1 (by omega)) (fun q => h2 (by omega))
theorem qv_iald (C : Cx K cI cJ cc nL own rm) {a N : Nat} {f : Nat → Nat} {z : Int} (q i : Nat) (hw : ws[q]? = some (ai cI a N f)) (hi : z = (i : Int)) (hin : i < N) (hN : N ≤ 2147483647) (d : decode cc pc = .ok (.iaload, 1)) (h : V K nL ws k n (pc + 1) lv (vi (f i : Nat) :: st)) : V K nL ws k n pc lv (vi z :: .ref a :: st) := by
  obtain ⟨p, l, e, R, s, m, args, below, meth, c, D, A, Q⟩ := K
  obtain ⟨hx, hb, hml, hown, hts, hK, hA, hR, hnw⟩ := C
  intro H locs ls hP hD hS hl
  subst hi
  refine va_iald hx hb hK hP q 0 hw rfl (zi_in hin hN) d ?_
  rw [zi_nat (by omega)]
  exact h H locs ls hP hD hS hl
theorem qv_lald (C : Cx K cI cJ cc nL own rm) {a N : Nat} {f : Nat → Nat} {z : Int} (q i : Nat) (hw : ws[q]? = some (aj cJ a N f)) (hi : z = (i : Int)) (hin : i < N) (hN : N ≤ 2147483647) (d : decode cc pc = .ok (.laload, 1)) (h : V K nL ws k n (pc + 1) lv (vj (f i : Nat) :: st)) : V K nL ws k n pc lv (vi z :: .ref a :: st) := by
  obtain ⟨p, l, e, R, s, m, args, below, meth, c, D, A, Q⟩ := K
  obtain ⟨hx, hb, hml, hown, hts, hK, hA, hR, hnw⟩ := C
  intro H locs ls hP hD hS hl
  subst hi
  refine va_lald hx hb hK hP q 1 hw rfl (zi_in hin hN) d ?_
  rw [zi_nat (by omega)]
  exact h H locs ls hP hD hS hl
theorem qv_iast (C : Cx K cI cJ cc nL own rm) {a N : Nat} {f : Nat → Nat} {y z : Int} {ws' : va_W} (q i x : Nat) (hw : ws[q]? = some (ai cI a N f)) (hi : z = (i : Int)) (hin : i < N) (hN : N ≤ 2147483647) (hy : y = (x : Int)) (hw2 : ws.set q (ai cI a N (un f i x)) = ws') (d : decode cc pc = .ok (.iastore, 1)) (h : V K nL ws' k n (pc + 1) lv st) : V K nL ws k n pc lv (vi y :: vi z :: .ref a :: st) := by
  obtain ⟨p, l, e, R, s, m, args, below, meth, c, D, A, Q⟩ := K
  obtain ⟨hx, hb, hml, hown, hts, hK, hA, hR, hnw⟩ := C
  intro H locs ls hP hD hS hl
  subst hi hy hw2
  refine va_iast hx hb hK hP hD hS q 0 hw rfl (zi_in hin hN) d (fun H1 locs1 hP1 hD1 hS1 => ?_)
  rw [zi_nat (by omega), un_i] at hP1 hD1
  exact h H1 locs1 ls hP1 hD1 hS1 hl
theorem qv_last (C : Cx K cI cJ cc nL own rm) {a N : Nat} {f : Nat → Nat} {y z : Int} {ws' : va_W} (q i x : Nat) (hw : ws[q]? = some (aj cJ a N f)) (hi : z = (i : Int)) (hin : i < N) (hN : N ≤ 2147483647) (hy : y = (x : Int)) (hw2 : ws.set q (aj cJ a N (un f i x)) = ws') (d : decode cc pc = .ok (.lastore, 1)) (h : V K nL ws' k n (pc + 1) lv st) : V K nL ws k n pc lv (vj y :: vi z :: .ref a :: st) := by
  obtain ⟨p, l, e, R, s, m, args, below, meth, c, D, A, Q⟩ := K
  obtain ⟨hx, hb, hml, hown, hts, hK, hA, hR, hnw⟩ := C
  intro H locs ls hP hD hS hl
  subst hi hy hw2
  refine va_last hx hb hK hP hD hS q 1 hw rfl (zi_in hin hN) d (fun H1 locs1 hP1 hD1 hS1 => ?_)
  rw [zi_nat (by omega), un_j] at hP1 hD1
  exact h H1 locs1 ls hP1 hD1 hS1 hl
theorem qv_alen (C : Cx K cI cJ cc nL own rm) {a N : Nat} {f : Nat → Nat} (q : Nat) (hw : ws[q]? = some (ai cI a N f)) (d : decode cc pc = .ok (.arraylength, 1)) (h : V K nL ws k n (pc + 1) lv (vi (N : Nat) :: st)) : V K nL ws k n pc lv (.ref a :: st) := by
  obtain ⟨p, l, e, R, s, m, args, below, meth, c, D, A, Q⟩ := K
  obtain ⟨hx, hb, hml, hown, hts, hK, hA, hR, hnw⟩ := C
  intro H locs ls hP hD hS hl
  exact va_alen hx hb hK hP q 0 hw rfl (zi_ofNat N) d (h H locs ls hP hD hS hl)
theorem qv_ti {K : Kx} {nL : Nat} {ws : va_W} {k n pc : Nat} {lv : List (Nat × Value)} {st : List Value} {z r : Int} (e : z = r) (h : V K nL ws k n pc lv (vi r :: st)) : V K nL ws k n pc lv (vi z :: st) := e ▸ h
theorem qv_tj {K : Kx} {nL : Nat} {ws : va_W} {k n pc : Nat} {lv : List (Nat × Value)} {st : List Value} {z r : Int} (e : z = r) (h : V K nL ws k n pc lv (vj r :: st)) : V K nL ws k n pc lv (vj z :: st) := e ▸ h
theorem qv_cgi {a N : Nat} {f g : Nat → Nat} {ws' : va_W} (q : Nat) (hw : ws[q]? = some (ai cI a N f)) (hfg : ∀ i, i < N → f i = g i) (hw2 : ws.set q (ai cI a N g) = ws') (h : V K nL ws' k n pc lv st) : V K nL ws k n pc lv st := by
  obtain ⟨p, l, e, R, s, m, args, below, meth, c, D, A, Q⟩ := K
  subst hw2
  intro H locs ls hP hD hS hl
  have h0 : H[a]? = some (arrV cI N (fun j => .int (zi (f j : Nat)))) := hP q _ hw
  have e : arrV cI N (fun j => Value.int (zi (f j : Nat))) = arrV cI N (fun j => .int (zi (g j : Nat))) := by
    unfold arrV
    have e1 : (fun j : Fin N => Value.int (zi (f j.val : Nat))) = fun j : Fin N => Value.int (zi (g j.val : Nat)) := funext fun j => by rw [hfg j.val j.isLt]
    rw [e1]
  rw [e] at h0
  exact h H locs ls (hP.set hD hw (show va_at D clz (ai cI a N g) H from h0) (fun _ _ => rfl)) (hD.set hw) hS hl
theorem qv_cgj {a N : Nat} {f g : Nat → Nat} {ws' : va_W} (q : Nat) (hw : ws[q]? = some (aj cJ a N f)) (hfg : ∀ i, i < N → f i = g i) (hw2 : ws.set q (aj cJ a N g) = ws') (h : V K nL ws' k n pc lv st) : V K nL ws k n pc lv st := by
  obtain ⟨p, l, e, R, s, m, args, below, meth, c, D, A, Q⟩ := K
  subst hw2
  intro H locs ls hP hD hS hl
  have h0 : H[a]? = some (arrV cJ N (fun j => .long (zj (f j : Nat)))) := hP q _ hw
  have e : arrV cJ N (fun j => Value.long (zj (f j : Nat))) = arrV cJ N (fun j => .long (zj (g j : Nat))) := by
    unfold arrV
    have e1 : (fun j : Fin N => Value.long (zj (f j.val : Nat))) = fun j : Fin N => Value.long (zj (g j.val : Nat)) := funext fun j => by rw [hfg j.val j.isLt]
    rw [e1]
  rw [e] at h0
  exact h H locs ls (hP.set hD hw (show va_at D clz (aj cJ a N g) H from h0) (fun _ _ => rfl)) (hD.set hw) hS hl
end Layer
end
