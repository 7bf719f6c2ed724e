section
-- ===== PART A: goes FIRST, ahead of the names: the tables' words, and 'selects' of the private methods out of them =====
/-- a private method of a class that the tables say can be made, by its rows of tables_1 -/
def lw_okq (q : MethodName × Nat) : Prop := (q.1.cls ≠ "java/lang/invoke/MethodHandle" ∧ q.1.cls ≠ "java/lang/invoke/VarHandle") ∧ Cond.instantiable q.1.cls q.2 ∈ tables_1 ∧ Cond.privateMethod q.1 ∈ tables_1 ∧ Cond.instanceMethod q.1 ∈ tables_1
theorem lw_p0 : lw_okq (⟨"java/lang/Throwable", "fillInStackTrace", "(I)Ljava/lang/Throwable;"⟩, 6) := ⟨⟨by decide +kernel, by decide +kernel⟩, List.mem_of_getElem? (i := 158) (by decide +kernel), List.mem_of_getElem? (i := 156) (by decide +kernel), List.mem_of_getElem? (i := 157) (by decide +kernel)⟩
theorem lw_p1 : lw_okq (⟨"DecimalTruth", "spell", "(JILDecimalTruth$Decimal;)V"⟩, 9) := ⟨⟨by decide +kernel, by decide +kernel⟩, List.mem_of_getElem? (i := 18) (by decide +kernel), List.mem_of_getElem? (i := 198) (by decide +kernel), List.mem_of_getElem? (i := 199) (by decide +kernel)⟩
theorem lw_p2 : lw_okq (⟨"DecimalTruth$Decimal", "readGroup", "(J)V"⟩, 3) := ⟨⟨by decide +kernel, by decide +kernel⟩, List.mem_of_getElem? (i := 26) (by decide +kernel), List.mem_of_getElem? (i := 230) (by decide +kernel), List.mem_of_getElem? (i := 231) (by decide +kernel)⟩
theorem lw_p3 : lw_okq (⟨"DecimalTruth$Decimal", "dropZerosAtEnd", "()V"⟩, 3) := ⟨⟨by decide +kernel, by decide +kernel⟩, List.mem_of_getElem? (i := 26) (by decide +kernel), List.mem_of_getElem? (i := 240) (by decide +kernel), List.mem_of_getElem? (i := 241) (by decide +kernel)⟩
theorem lw_p4 : lw_okq (⟨"DecimalTruth", "forgetWhatCame", "()V"⟩, 9) := ⟨⟨by decide +kernel, by decide +kernel⟩, List.mem_of_getElem? (i := 18) (by decide +kernel), List.mem_of_getElem? (i := 244) (by decide +kernel), List.mem_of_getElem? (i := 245) (by decide +kernel)⟩
theorem lw_p5 : lw_okq (⟨"DecimalTruth", "hasNoRoomFor", "(I)Z"⟩, 9) := ⟨⟨by decide +kernel, by decide +kernel⟩, List.mem_of_getElem? (i := 18) (by decide +kernel), List.mem_of_getElem? (i := 257) (by decide +kernel), List.mem_of_getElem? (i := 258) (by decide +kernel)⟩
theorem lw_p6 : lw_okq (⟨"DecimalTruth", "bringDigit", "(I)V"⟩, 9) := ⟨⟨by decide +kernel, by decide +kernel⟩, List.mem_of_getElem? (i := 18) (by decide +kernel), List.mem_of_getElem? (i := 277) (by decide +kernel), List.mem_of_getElem? (i := 278) (by decide +kernel)⟩
theorem lw_p7 : lw_okq (⟨"DecimalTruth", "roundToDigits", "(I)V"⟩, 9) := ⟨⟨by decide +kernel, by decide +kernel⟩, List.mem_of_getElem? (i := 18) (by decide +kernel), List.mem_of_getElem? (i := 302) (by decide +kernel), List.mem_of_getElem? (i := 303) (by decide +kernel)⟩
theorem lw_p8 : lw_okq (⟨"DecimalTruth$Decimal", "goUp", "()V"⟩, 3) := ⟨⟨by decide +kernel, by decide +kernel⟩, List.mem_of_getElem? (i := 26) (by decide +kernel), List.mem_of_getElem? (i := 319) (by decide +kernel), List.mem_of_getElem? (i := 320) (by decide +kernel)⟩
theorem lw_p9 : lw_okq (⟨"DecimalTruth", "nearestSize", "()J"⟩, 9) := ⟨⟨by decide +kernel, by decide +kernel⟩, List.mem_of_getElem? (i := 18) (by decide +kernel), List.mem_of_getElem? (i := 339) (by decide +kernel), List.mem_of_getElem? (i := 340) (by decide +kernel)⟩
theorem lw_p10 : lw_okq (⟨"DecimalTruth$Words", "firstThatIsNotZero", "(I)I"⟩, 2) := ⟨⟨by decide +kernel, by decide +kernel⟩, List.mem_of_getElem? (i := 69) (by decide +kernel), List.mem_of_getElem? (i := 355) (by decide +kernel), List.mem_of_getElem? (i := 356) (by decide +kernel)⟩
theorem lw_p11 : lw_okq (⟨"DecimalTruth$Words", "isMoreFrom", "(I)Z"⟩, 2) := ⟨⟨by decide +kernel, by decide +kernel⟩, List.mem_of_getElem? (i := 69) (by decide +kernel), List.mem_of_getElem? (i := 376) (by decide +kernel), List.mem_of_getElem? (i := 377) (by decide +kernel)⟩
theorem lw_p12 : lw_okq (⟨"DecimalTruth", "leastDigitsFor", "(J)I"⟩, 9) := ⟨⟨by decide +kernel, by decide +kernel⟩, List.mem_of_getElem? (i := 18) (by decide +kernel), List.mem_of_getElem? (i := 408) (by decide +kernel), List.mem_of_getElem? (i := 409) (by decide +kernel)⟩
theorem lw_p13 : lw_okq (⟨"DecimalTruth", "spellMiddleAbove", "(JLDecimalTruth$Decimal;)V"⟩, 9) := ⟨⟨by decide +kernel, by decide +kernel⟩, List.mem_of_getElem? (i := 18) (by decide +kernel), List.mem_of_getElem? (i := 412) (by decide +kernel), List.mem_of_getElem? (i := 413) (by decide +kernel)⟩
theorem lw_p14 : lw_okq (⟨"DecimalTruth", "holdsWith", "(IZ)Z"⟩, 9) := ⟨⟨by decide +kernel, by decide +kernel⟩, List.mem_of_getElem? (i := 18) (by decide +kernel), List.mem_of_getElem? (i := 417) (by decide +kernel), List.mem_of_getElem? (i := 418) (by decide +kernel)⟩
theorem lw_p15 : lw_okq (⟨"DecimalTruthModel", "fails", "(ZI)Z"⟩, 19) := ⟨⟨by decide +kernel, by decide +kernel⟩, List.mem_of_getElem? (i := 454) (by decide +kernel), List.mem_of_getElem? (i := 526) (by decide +kernel), List.mem_of_getElem? (i := 527) (by decide +kernel)⟩
def lw_privs_1 : List (MethodName × Nat) := [(⟨"java/lang/Throwable", "fillInStackTrace", "(I)Ljava/lang/Throwable;"⟩, 6), (⟨"DecimalTruth", "spell", "(JILDecimalTruth$Decimal;)V"⟩, 9), (⟨"DecimalTruth$Decimal", "readGroup", "(J)V"⟩, 3), (⟨"DecimalTruth$Decimal", "dropZerosAtEnd", "()V"⟩, 3), (⟨"DecimalTruth", "forgetWhatCame", "()V"⟩, 9), (⟨"DecimalTruth", "hasNoRoomFor", "(I)Z"⟩, 9), (⟨"DecimalTruth", "bringDigit", "(I)V"⟩, 9), (⟨"DecimalTruth", "roundToDigits", "(I)V"⟩, 9), (⟨"DecimalTruth$Decimal", "goUp", "()V"⟩, 3), (⟨"DecimalTruth", "nearestSize", "()J"⟩, 9), (⟨"DecimalTruth$Words", "firstThatIsNotZero", "(I)I"⟩, 2), (⟨"DecimalTruth$Words", "isMoreFrom", "(I)Z"⟩, 2), (⟨"DecimalTruth", "leastDigitsFor", "(J)I"⟩, 9), (⟨"DecimalTruth", "spellMiddleAbove", "(JLDecimalTruth$Decimal;)V"⟩, 9), (⟨"DecimalTruth", "holdsWith", "(IZ)Z"⟩, 9), (⟨"DecimalTruthModel", "fails", "(ZI)Z"⟩, 19)]
theorem lw_r1 : ∀ q ∈ lw_privs_1, lw_okq q := List.forall_mem_cons.mpr ⟨lw_p0, List.forall_mem_cons.mpr ⟨lw_p1, List.forall_mem_cons.mpr ⟨lw_p2, List.forall_mem_cons.mpr ⟨lw_p3, List.forall_mem_cons.mpr ⟨lw_p4, List.forall_mem_cons.mpr ⟨lw_p5, List.forall_mem_cons.mpr ⟨lw_p6, List.forall_mem_cons.mpr ⟨lw_p7, List.forall_mem_cons.mpr ⟨lw_p8, List.forall_mem_cons.mpr ⟨lw_p9, List.forall_mem_cons.mpr ⟨lw_p10, List.forall_mem_cons.mpr ⟨lw_p11, List.forall_mem_cons.mpr ⟨lw_p12, List.forall_mem_cons.mpr ⟨lw_p13, List.forall_mem_cons.mpr ⟨lw_p14, List.forall_mem_cons.mpr ⟨lw_p15, fun _ h => absurd h List.not_mem_nil⟩⟩⟩⟩⟩⟩⟩⟩⟩⟩⟩⟩⟩⟩⟩⟩
theorem lw_p16 : lw_okq (⟨"DecimalTruthModel", "twice", "()V"⟩, 19) := ⟨⟨by decide +kernel, by decide +kernel⟩, List.mem_of_getElem? (i := 454) (by decide +kernel), List.mem_of_getElem? (i := 533) (by decide +kernel), List.mem_of_getElem? (i := 534) (by decide +kernel)⟩
theorem lw_p17 : lw_okq (⟨"DecimalTruthModel", "half", "()V"⟩, 19) := ⟨⟨by decide +kernel, by decide +kernel⟩, List.mem_of_getElem? (i := 454) (by decide +kernel), List.mem_of_getElem? (i := 537) (by decide +kernel), List.mem_of_getElem? (i := 538) (by decide +kernel)⟩
theorem lw_p18 : lw_okq (⟨"DecimalTruthModel", "keep", "()V"⟩, 19) := ⟨⟨by decide +kernel, by decide +kernel⟩, List.mem_of_getElem? (i := 454) (by decide +kernel), List.mem_of_getElem? (i := 541) (by decide +kernel), List.mem_of_getElem? (i := 542) (by decide +kernel)⟩
theorem lw_p19 : lw_okq (⟨"DecimalTruthModel", "cut", "(J)V"⟩, 19) := ⟨⟨by decide +kernel, by decide +kernel⟩, List.mem_of_getElem? (i := 454) (by decide +kernel), List.mem_of_getElem? (i := 565) (by decide +kernel), List.mem_of_getElem? (i := 566) (by decide +kernel)⟩
theorem lw_p20 : lw_okq (⟨"DecimalTruthModel", "nothing", "()V"⟩, 19) := ⟨⟨by decide +kernel, by decide +kernel⟩, List.mem_of_getElem? (i := 454) (by decide +kernel), List.mem_of_getElem? (i := 569) (by decide +kernel), List.mem_of_getElem? (i := 570) (by decide +kernel)⟩
theorem lw_p21 : lw_okq (⟨"DecimalTruthModel", "finds", "(I)Z"⟩, 19) := ⟨⟨by decide +kernel, by decide +kernel⟩, List.mem_of_getElem? (i := 454) (by decide +kernel), List.mem_of_getElem? (i := 582) (by decide +kernel), List.mem_of_getElem? (i := 583) (by decide +kernel)⟩
theorem lw_p22 : lw_okq (⟨"DecimalTruthModel", "isNothing", "(II)Z"⟩, 19) := ⟨⟨by decide +kernel, by decide +kernel⟩, List.mem_of_getElem? (i := 454) (by decide +kernel), List.mem_of_getElem? (i := 586) (by decide +kernel), List.mem_of_getElem? (i := 587) (by decide +kernel)⟩
theorem lw_p23 : lw_okq (⟨"DecimalTruthModel", "put", "(JIIZ)Z"⟩, 19) := ⟨⟨by decide +kernel, by decide +kernel⟩, List.mem_of_getElem? (i := 454) (by decide +kernel), List.mem_of_getElem? (i := 590) (by decide +kernel), List.mem_of_getElem? (i := 591) (by decide +kernel)⟩
theorem lw_p24 : lw_okq (⟨"DecimalTruthModel", "exactly", "(JI)V"⟩, 19) := ⟨⟨by decide +kernel, by decide +kernel⟩, List.mem_of_getElem? (i := 454) (by decide +kernel), List.mem_of_getElem? (i := 601) (by decide +kernel), List.mem_of_getElem? (i := 602) (by decide +kernel)⟩
theorem lw_p25 : lw_okq (⟨"DecimalTruthModel", "compare", "([III)I"⟩, 19) := ⟨⟨by decide +kernel, by decide +kernel⟩, List.mem_of_getElem? (i := 454) (by decide +kernel), List.mem_of_getElem? (i := 606) (by decide +kernel), List.mem_of_getElem? (i := 607) (by decide +kernel)⟩
def lw_privs_2 : List (MethodName × Nat) := [(⟨"DecimalTruthModel", "twice", "()V"⟩, 19), (⟨"DecimalTruthModel", "half", "()V"⟩, 19), (⟨"DecimalTruthModel", "keep", "()V"⟩, 19), (⟨"DecimalTruthModel", "cut", "(J)V"⟩, 19), (⟨"DecimalTruthModel", "nothing", "()V"⟩, 19), (⟨"DecimalTruthModel", "finds", "(I)Z"⟩, 19), (⟨"DecimalTruthModel", "isNothing", "(II)Z"⟩, 19), (⟨"DecimalTruthModel", "put", "(JIIZ)Z"⟩, 19), (⟨"DecimalTruthModel", "exactly", "(JI)V"⟩, 19), (⟨"DecimalTruthModel", "compare", "([III)I"⟩, 19)]
theorem lw_r2 : ∀ q ∈ lw_privs_2, lw_okq q := List.forall_mem_cons.mpr ⟨lw_p16, List.forall_mem_cons.mpr ⟨lw_p17, List.forall_mem_cons.mpr ⟨lw_p18, List.forall_mem_cons.mpr ⟨lw_p19, List.forall_mem_cons.mpr ⟨lw_p20, List.forall_mem_cons.mpr ⟨lw_p21, List.forall_mem_cons.mpr ⟨lw_p22, List.forall_mem_cons.mpr ⟨lw_p23, List.forall_mem_cons.mpr ⟨lw_p24, List.forall_mem_cons.mpr ⟨lw_p25, fun _ h => absurd h List.not_mem_nil⟩⟩⟩⟩⟩⟩⟩⟩⟩⟩
def lw_privs : List (MethodName × Nat) := lw_privs_1 ++ (lw_privs_2)
def lw_tbl : List Cond := k2_sels lw_privs ++ tables_1
theorem lw_privs_ok : ∀ q ∈ lw_privs, lw_okq q := by
  show ∀ q ∈ lw_privs_1 ++ (lw_privs_2), lw_okq q
  exact List.forall_mem_append.mpr ⟨lw_r1, lw_r2⟩
-- ===== end of PART A; then your names; then what follows =====
end
section
/-! names of the classes, fields, methods; the tables' words in two lists -/
def isN : Cond → Bool
  | .fieldLinkNest _ _ _ _ _ _ => true
  | .methodLinkNest _ _ _ _ => true
  | _ => false
def al : List Cond := lw_tbl.filter goodWord
def nl : List Cond := lw_tbl.filter isN
theorem wl {i : Nat} {w : Cond} (h : tables_1[i]? = some w) (hg : goodWord w = true) : w ∈ al := List.mem_filter.mpr ⟨List.mem_append_right _ (List.mem_of_getElem? h), hg⟩
theorem wn {i : Nat} {w : Cond} (h : tables_1[i]? = some w) (hg : isN w = true) : w ∈ nl := List.mem_filter.mpr ⟨List.mem_append_right _ (List.mem_of_getElem? h), hg⟩
theorem wp {i : Nat} {q : MethodName × Nat} (h : lw_privs[i]? = some q) : Cond.selects q.1.cls q.1 q.1 ∈ al := List.mem_filter.mpr ⟨List.mem_append_left _ (List.mem_map.mpr ⟨q, List.mem_of_getElem? h, rfl⟩), rfl⟩
abbrev RD : String := "DecimalTruth$Decimal"
abbrev RG : String := "DecimalTruth$Groups"
abbrev RW : String := "DecimalTruth$Words"
abbrev RT : String := "DecimalTruth"
abbrev RM : String := "DecimalTruthModel"
abbrev RL : String := "DecimalTruthLaw"
def TF0 : u_T := fun k => match k with
  | 0 => ("DecimalTruth$Decimal", "digits", "[I", true)
  | 1 => ("DecimalTruth$Decimal", "length", "I", false)
  | _ => ("DecimalTruth$Decimal", "place", "I", false)
def ty0_ : Nat → FieldType := fun k => match k with
  | 0 => .array .int
  | 1 => .int
  | _ => .int
theorem tn_0 : ∀ a, a < 3 → ∀ b, b < 3 → a ≠ b → (TF0 a).2.1 ≠ (TF0 b).2.1 := by decide +kernel
theorem tt_0 : ∀ k, k < 3 → parseFieldDescriptor (TF0 k).2.2.1 = some (ty0_ k) := by decide +kernel
theorem tu_0 : ∀ w ∈ u_ws "DecimalTruth$Decimal" TF0 3, w ∈ al := by
  have h : (u_ws "DecimalTruth$Decimal" TF0 3).all (fun w => decide (w ∈ tables_1) && goodWord w) = true := by decide +kernel
  intro w hw
  have h2 := List.all_eq_true.mp h w hw
  rw [Bool.and_eq_true, decide_eq_true_iff] at h2
  exact List.mem_filter.mpr ⟨List.mem_append_right _ h2.1, h2.2⟩
def TF1 : u_T := fun k => match k with
  | 0 => ("DecimalTruth$Groups", "rows", "[J", true)
  | 1 => ("DecimalTruth$Groups", "first", "I", false)
  | _ => ("DecimalTruth$Groups", "end", "I", false)
def ty1_ : Nat → FieldType := fun k => match k with
  | 0 => .array .long
  | 1 => .int
  | _ => .int
theorem tn_1 : ∀ a, a < 3 → ∀ b, b < 3 → a ≠ b → (TF1 a).2.1 ≠ (TF1 b).2.1 := by decide +kernel
theorem tt_1 : ∀ k, k < 3 → parseFieldDescriptor (TF1 k).2.2.1 = some (ty1_ k) := by decide +kernel
theorem tu_1 : ∀ w ∈ u_ws "DecimalTruth$Groups" TF1 3, w ∈ al := by
  have h : (u_ws "DecimalTruth$Groups" TF1 3).all (fun w => decide (w ∈ tables_1) && goodWord w) = true := by decide +kernel
  intro w hw
  have h2 := List.all_eq_true.mp h w hw
  rw [Bool.and_eq_true, decide_eq_true_iff] at h2
  exact List.mem_filter.mpr ⟨List.mem_append_right _ h2.1, h2.2⟩
def TF2 : u_T := fun k => match k with
  | 0 => ("DecimalTruth$Words", "rows", "[J", true)
  | _ => ("DecimalTruth$Words", "hasMore", "Z", false)
def ty2_ : Nat → FieldType := fun k => match k with
  | 0 => .array .long
  | _ => .boolean
theorem tn_2 : ∀ a, a < 2 → ∀ b, b < 2 → a ≠ b → (TF2 a).2.1 ≠ (TF2 b).2.1 := by decide +kernel
theorem tt_2 : ∀ k, k < 2 → parseFieldDescriptor (TF2 k).2.2.1 = some (ty2_ k) := by decide +kernel
theorem tu_2 : ∀ w ∈ u_ws "DecimalTruth$Words" TF2 2, w ∈ al := by
  have h : (u_ws "DecimalTruth$Words" TF2 2).all (fun w => decide (w ∈ tables_1) && goodWord w) = true := by decide +kernel
  intro w hw
  have h2 := List.all_eq_true.mp h w hw
  rw [Bool.and_eq_true, decide_eq_true_iff] at h2
  exact List.mem_filter.mpr ⟨List.mem_append_right _ h2.1, h2.2⟩
def TF3 : u_T := fun k => match k with
  | 0 => ("DecimalTruth", "kept", "LDecimalTruth$Decimal;", true)
  | 1 => ("DecimalTruth", "minus", "Z", false)
  | 2 => ("DecimalTruth", "zerosInMind", "I", false)
  | 3 => ("DecimalTruth", "point", "I", false)
  | 4 => ("DecimalTruth", "groups", "LDecimalTruth$Groups;", true)
  | 5 => ("DecimalTruth", "words", "LDecimalTruth$Words;", true)
  | 6 => ("DecimalTruth", "trial", "LDecimalTruth$Decimal;", true)
  | 7 => ("DecimalTruth", "low", "LDecimalTruth$Decimal;", true)
  | _ => ("DecimalTruth", "high", "LDecimalTruth$Decimal;", true)
def ty3_ : Nat → FieldType := fun k => match k with
  | 0 => .object "DecimalTruth$Decimal"
  | 1 => .boolean
  | 2 => .int
  | 3 => .int
  | 4 => .object "DecimalTruth$Groups"
  | 5 => .object "DecimalTruth$Words"
  | 6 => .object "DecimalTruth$Decimal"
  | 7 => .object "DecimalTruth$Decimal"
  | _ => .object "DecimalTruth$Decimal"
theorem tn_3 : ∀ a, a < 9 → ∀ b, b < 9 → a ≠ b → (TF3 a).2.1 ≠ (TF3 b).2.1 := by decide +kernel
theorem tt_3 : ∀ k, k < 9 → parseFieldDescriptor (TF3 k).2.2.1 = some (ty3_ k) := by decide +kernel
theorem tu_3 : ∀ w ∈ u_ws "DecimalTruth" TF3 9, w ∈ al := by
  have h : (u_ws "DecimalTruth" TF3 9).all (fun w => decide (w ∈ tables_1) && goodWord w) = true := by decide +kernel
  intro w hw
  have h2 := List.all_eq_true.mp h w hw
  rw [Bool.and_eq_true, decide_eq_true_iff] at h2
  exact List.mem_filter.mpr ⟨List.mem_append_right _ h2.1, h2.2⟩
def TF4 : u_T := fun k => match k with
  | 0 => ("DecimalTruthModel", "err", "I", false)
  | 1 => ("DecimalTruthModel", "minus", "Z", false)
  | 2 => ("DecimalTruthModel", "digit", "[I", true)
  | 3 => ("DecimalTruthModel", "digits", "I", false)
  | 4 => ("DecimalTruthModel", "place", "I", false)
  | 5 => ("DecimalTruthModel", "zeros", "I", false)
  | 6 => ("DecimalTruthModel", "behind", "I", false)
  | 7 => ("DecimalTruthModel", "row", "[I", true)
  | 8 => ("DecimalTruthModel", "many", "I", false)
  | 9 => ("DecimalTruthModel", "fraction", "I", false)
  | 10 => ("DecimalTruthModel", "found", "J", false)
  | 11 => ("DecimalTruthModel", "bit", "[I", true)
  | 12 => ("DecimalTruthModel", "was", "[I", true)
  | 13 => ("DecimalTruthModel", "low", "[I", true)
  | 14 => ("DecimalTruthModel", "high", "[I", true)
  | 15 => ("DecimalTruthModel", "lows", "I", false)
  | 16 => ("DecimalTruthModel", "lowPlace", "I", false)
  | 17 => ("DecimalTruthModel", "highs", "I", false)
  | _ => ("DecimalTruthModel", "highPlace", "I", false)
def ty4_ : Nat → FieldType := fun k => match k with
  | 0 => .int
  | 1 => .boolean
  | 2 => .array .int
  | 3 => .int
  | 4 => .int
  | 5 => .int
  | 6 => .int
  | 7 => .array .int
  | 8 => .int
  | 9 => .int
  | 10 => .long
  | 11 => .array .int
  | 12 => .array .int
  | 13 => .array .int
  | 14 => .array .int
  | 15 => .int
  | 16 => .int
  | 17 => .int
  | _ => .int
theorem tn_4 : ∀ a, a < 19 → ∀ b, b < 19 → a ≠ b → (TF4 a).2.1 ≠ (TF4 b).2.1 := by decide +kernel
theorem tt_4 : ∀ k, k < 19 → parseFieldDescriptor (TF4 k).2.2.1 = some (ty4_ k) := by decide +kernel
theorem tu_4 : ∀ w ∈ u_ws "DecimalTruthModel" TF4 19, w ∈ al := by
  have h : (u_ws "DecimalTruthModel" TF4 19).all (fun w => decide (w ∈ tables_1) && goodWord w) = true := by decide +kernel
  intro w hw
  have h2 := List.all_eq_true.mp h w hw
  rw [Bool.and_eq_true, decide_eq_true_iff] at h2
  exact List.mem_filter.mpr ⟨List.mem_append_right _ h2.1, h2.2⟩
abbrev clz : List vw_C := [("DecimalTruth$Decimal", TF0, 3), ("DecimalTruth$Groups", TF1, 3), ("DecimalTruth$Words", TF2, 2), ("DecimalTruth", TF3, 9), ("DecimalTruthModel", TF4, 19)]
abbrev kb_Tru_init : ByteArray := prog_1_method_1_code
abbrev ky_Tru_init : MethodName := ⟨"DecimalTruth", "<init>", "()V"⟩
theorem cd_Tru_init : Cond.code ky_Tru_init kb_Tru_init 1 none ∈ al := wl (i := 21) rfl rfl
abbrev kb_Tru_set : ByteArray := prog_1_method_2_code
abbrev ky_Tru_set : MethodName := ⟨"DecimalTruth", "set", "(J)I"⟩
theorem cd_Tru_set : Cond.code ky_Tru_set kb_Tru_set 5 (some .int) ∈ al := wl (i := 116) rfl rfl
abbrev kb_Tru_digit : ByteArray := prog_1_method_3_code
abbrev ky_Tru_digit : MethodName := ⟨"DecimalTruth", "digit", "(I)I"⟩
theorem cd_Tru_digit : Cond.code ky_Tru_digit kb_Tru_digit 2 (some .int) ∈ al := wl (i := 254) rfl rfl
abbrev kb_Tru_clear : ByteArray := prog_1_method_4_code
abbrev ky_Tru_clear : MethodName := ⟨"DecimalTruth", "clear", "(ZI)V"⟩
theorem cd_Tru_clear : Cond.code ky_Tru_clear kb_Tru_clear 3 none ∈ al := wl (i := 287) rfl rfl
abbrev kb_Tru_round : ByteArray := prog_1_method_5_code
abbrev ky_Tru_round : MethodName := ⟨"DecimalTruth", "round", "(I)I"⟩
theorem cd_Tru_round : Cond.code ky_Tru_round kb_Tru_round 2 (some .int) ∈ al := wl (i := 299) rfl rfl
abbrev kb_Tru_places : ByteArray := prog_1_method_6_code
abbrev ky_Tru_places : MethodName := ⟨"DecimalTruth", "places", "(I)I"⟩
theorem cd_Tru_places : Cond.code ky_Tru_places kb_Tru_places 2 (some .int) ∈ al := wl (i := 328) rfl rfl
abbrev kb_Tru_nearest : ByteArray := prog_1_method_7_code
abbrev ky_Tru_nearest : MethodName := ⟨"DecimalTruth", "nearest", "()J"⟩
theorem cd_Tru_nearest : Cond.code ky_Tru_nearest kb_Tru_nearest 3 (some .long) ∈ al := wl (i := 337) rfl rfl
abbrev kb_Tru_enough : ByteArray := prog_1_method_8_code
abbrev ky_Tru_enough : MethodName := ⟨"DecimalTruth", "enough", "()I"⟩
set_option maxRecDepth 10000 in
theorem cd_Tru_enough : Cond.code ky_Tru_enough kb_Tru_enough 4 (some .int) ∈ al := wl (i := 406) rfl rfl
abbrev kb_Tru_look : ByteArray := prog_1_method_9_code
abbrev ky_Tru_look : MethodName := ⟨"DecimalTruth", "look", "(I)I"⟩
set_option maxRecDepth 10000 in
theorem cd_Tru_look : Cond.code ky_Tru_look kb_Tru_look 2 (some .int) ∈ al := wl (i := 443) rfl rfl
abbrev kb_Tru_count : ByteArray := prog_1_method_10_code
abbrev ky_Tru_count : MethodName := ⟨"DecimalTruth", "count", "(I)I"⟩
set_option maxRecDepth 10000 in
theorem cd_Tru_count : Cond.code ky_Tru_count kb_Tru_count 2 (some .int) ∈ al := wl (i := 451) rfl rfl
abbrev kb_Tru_hasNoRoomFor : ByteArray := prog_1_method_11_code
abbrev ky_Tru_hasNoRoomFor : MethodName := ⟨"DecimalTruth", "hasNoRoomFor", "(I)Z"⟩
theorem cd_Tru_hasNoRoomFor : Cond.code ky_Tru_hasNoRoomFor kb_Tru_hasNoRoomFor 2 (some .boolean) ∈ al := wl (i := 259) rfl rfl
abbrev kb_Tru_bringDigit : ByteArray := prog_1_method_12_code
abbrev ky_Tru_bringDigit : MethodName := ⟨"DecimalTruth", "bringDigit", "(I)V"⟩
theorem cd_Tru_bringDigit : Cond.code ky_Tru_bringDigit kb_Tru_bringDigit 3 none ∈ al := wl (i := 279) rfl rfl
abbrev kb_Tru_forgetWhatCame : ByteArray := prog_1_method_13_code
abbrev ky_Tru_forgetWhatCame : MethodName := ⟨"DecimalTruth", "forgetWhatCame", "()V"⟩
theorem cd_Tru_forgetWhatCame : Cond.code ky_Tru_forgetWhatCame kb_Tru_forgetWhatCame 1 none ∈ al := wl (i := 246) rfl rfl
abbrev kb_Tru_roundToDigits : ByteArray := prog_1_method_14_code
abbrev ky_Tru_roundToDigits : MethodName := ⟨"DecimalTruth", "roundToDigits", "(I)V"⟩
theorem cd_Tru_roundToDigits : Cond.code ky_Tru_roundToDigits kb_Tru_roundToDigits 2 none ∈ al := wl (i := 304) rfl rfl
abbrev kb_Tru_nearestSize : ByteArray := prog_1_method_15_code
abbrev ky_Tru_nearestSize : MethodName := ⟨"DecimalTruth", "nearestSize", "()J"⟩
theorem cd_Tru_nearestSize : Cond.code ky_Tru_nearestSize kb_Tru_nearestSize 1 (some .long) ∈ al := wl (i := 341) rfl rfl
abbrev kb_Tru_leastDigitsFor : ByteArray := prog_1_method_16_code
abbrev ky_Tru_leastDigitsFor : MethodName := ⟨"DecimalTruth", "leastDigitsFor", "(J)I"⟩
set_option maxRecDepth 10000 in
theorem cd_Tru_leastDigitsFor : Cond.code ky_Tru_leastDigitsFor kb_Tru_leastDigitsFor 5 (some .int) ∈ al := wl (i := 410) rfl rfl
abbrev kb_Tru_holdsWith : ByteArray := prog_1_method_17_code
abbrev ky_Tru_holdsWith : MethodName := ⟨"DecimalTruth", "holdsWith", "(IZ)Z"⟩
set_option maxRecDepth 10000 in
theorem cd_Tru_holdsWith : Cond.code ky_Tru_holdsWith kb_Tru_holdsWith 5 (some .boolean) ∈ al := wl (i := 419) rfl rfl
abbrev kb_Tru_spellMiddleAbove : ByteArray := prog_1_method_18_code
abbrev ky_Tru_spellMiddleAbove : MethodName := ⟨"DecimalTruth", "spellMiddleAbove", "(JLDecimalTruth$Decimal;)V"⟩
set_option maxRecDepth 10000 in
theorem cd_Tru_spellMiddleAbove : Cond.code ky_Tru_spellMiddleAbove kb_Tru_spellMiddleAbove 4 none ∈ al := wl (i := 414) rfl rfl
abbrev kb_Tru_spell : ByteArray := prog_1_method_19_code
abbrev ky_Tru_spell : MethodName := ⟨"DecimalTruth", "spell", "(JILDecimalTruth$Decimal;)V"⟩
theorem cd_Tru_spell : Cond.code ky_Tru_spell kb_Tru_spell 5 none ∈ al := wl (i := 200) rfl rfl
abbrev kb_Tru_factorOf : ByteArray := prog_1_method_20_code
abbrev ky_Tru_factorOf : MethodName := ⟨"DecimalTruth", "factorOf", "(J)J"⟩
theorem cd_Tru_factorOf : Cond.code ky_Tru_factorOf kb_Tru_factorOf 4 (some .long) ∈ al := wl (i := 189) rfl rfl
abbrev kb_Tru_powerOf : ByteArray := prog_1_method_21_code
abbrev ky_Tru_powerOf : MethodName := ⟨"DecimalTruth", "powerOf", "(J)I"⟩
theorem cd_Tru_powerOf : Cond.code ky_Tru_powerOf kb_Tru_powerOf 3 (some .int) ∈ al := wl (i := 193) rfl rfl
abbrev kb_Mod_init : ByteArray := prog_6_method_1_code
abbrev ky_Mod_init : MethodName := ⟨"DecimalTruthModel", "<init>", "()V"⟩
set_option maxRecDepth 10000 in
theorem cd_Mod_init : Cond.code ky_Mod_init kb_Mod_init 1 none ∈ al := wl (i := 457) rfl rfl
abbrev kb_Mod_thrown : ByteArray := prog_6_method_2_code
abbrev ky_Mod_thrown : MethodName := ⟨"DecimalTruthModel", "thrown", "()I"⟩
set_option maxRecDepth 10000 in
theorem cd_Mod_thrown : Cond.code ky_Mod_thrown kb_Mod_thrown 1 (some .int) ∈ al := wl (i := 520) rfl rfl
abbrev kb_Mod_in : ByteArray := prog_6_method_3_code
abbrev ky_Mod_in : MethodName := ⟨"DecimalTruthModel", "in", "(JJJ)Z"⟩
set_option maxRecDepth 10000 in
theorem cd_Mod_in : Cond.code ky_Mod_in kb_Mod_in 6 (some .boolean) ∈ al := wl (i := 551) rfl rfl
abbrev kb_Mod_fails : ByteArray := prog_6_method_4_code
abbrev ky_Mod_fails : MethodName := ⟨"DecimalTruthModel", "fails", "(ZI)Z"⟩
set_option maxRecDepth 10000 in
theorem cd_Mod_fails : Cond.code ky_Mod_fails kb_Mod_fails 3 (some .boolean) ∈ al := wl (i := 528) rfl rfl
abbrev kb_Mod_set : ByteArray := prog_6_method_5_code
abbrev ky_Mod_set : MethodName := ⟨"DecimalTruthModel", "set", "(J)I"⟩
set_option maxRecDepth 10000 in
theorem cd_Mod_set : Cond.code ky_Mod_set kb_Mod_set 10 (some .int) ∈ al := wl (i := 524) rfl rfl
abbrev kb_Mod_twice : ByteArray := prog_6_method_6_code
abbrev ky_Mod_twice : MethodName := ⟨"DecimalTruthModel", "twice", "()V"⟩
set_option maxRecDepth 10000 in
theorem cd_Mod_twice : Cond.code ky_Mod_twice kb_Mod_twice 4 none ∈ al := wl (i := 535) rfl rfl
abbrev kb_Mod_half : ByteArray := prog_6_method_7_code
abbrev ky_Mod_half : MethodName := ⟨"DecimalTruthModel", "half", "()V"⟩
set_option maxRecDepth 10000 in
theorem cd_Mod_half : Cond.code ky_Mod_half kb_Mod_half 4 none ∈ al := wl (i := 539) rfl rfl
abbrev kb_Mod_keep : ByteArray := prog_6_method_8_code
abbrev ky_Mod_keep : MethodName := ⟨"DecimalTruthModel", "keep", "()V"⟩
set_option maxRecDepth 10000 in
theorem cd_Mod_keep : Cond.code ky_Mod_keep kb_Mod_keep 4 none ∈ al := wl (i := 543) rfl rfl
abbrev kb_Mod_digit : ByteArray := prog_6_method_9_code
abbrev ky_Mod_digit : MethodName := ⟨"DecimalTruthModel", "digit", "(I)I"⟩
set_option maxRecDepth 10000 in
theorem cd_Mod_digit : Cond.code ky_Mod_digit kb_Mod_digit 2 (some .int) ∈ al := wl (i := 547) rfl rfl
abbrev kb_Mod_clear : ByteArray := prog_6_method_10_code
abbrev ky_Mod_clear : MethodName := ⟨"DecimalTruthModel", "clear", "(ZI)V"⟩
set_option maxRecDepth 10000 in
theorem cd_Mod_clear : Cond.code ky_Mod_clear kb_Mod_clear 3 none ∈ al := wl (i := 555) rfl rfl
abbrev kb_Mod_cut : ByteArray := prog_6_method_11_code
abbrev ky_Mod_cut : MethodName := ⟨"DecimalTruthModel", "cut", "(J)V"⟩
set_option maxRecDepth 10000 in
theorem cd_Mod_cut : Cond.code ky_Mod_cut kb_Mod_cut 5 none ∈ al := wl (i := 567) rfl rfl
abbrev kb_Mod_nothing : ByteArray := prog_6_method_12_code
abbrev ky_Mod_nothing : MethodName := ⟨"DecimalTruthModel", "nothing", "()V"⟩
set_option maxRecDepth 10000 in
theorem cd_Mod_nothing : Cond.code ky_Mod_nothing kb_Mod_nothing 1 none ∈ al := wl (i := 571) rfl rfl
abbrev kb_Mod_round : ByteArray := prog_6_method_13_code
abbrev ky_Mod_round : MethodName := ⟨"DecimalTruthModel", "round", "(I)I"⟩
set_option maxRecDepth 10000 in
theorem cd_Mod_round : Cond.code ky_Mod_round kb_Mod_round 2 (some .int) ∈ al := wl (i := 561) rfl rfl
abbrev kb_Mod_places : ByteArray := prog_6_method_14_code
abbrev ky_Mod_places : MethodName := ⟨"DecimalTruthModel", "places", "(I)I"⟩
set_option maxRecDepth 10000 in
theorem cd_Mod_places : Cond.code ky_Mod_places kb_Mod_places 2 (some .int) ∈ al := wl (i := 575) rfl rfl
abbrev kb_Mod_finds : ByteArray := prog_6_method_15_code
abbrev ky_Mod_finds : MethodName := ⟨"DecimalTruthModel", "finds", "(I)Z"⟩
set_option maxRecDepth 10000 in
theorem cd_Mod_finds : Cond.code ky_Mod_finds kb_Mod_finds 13 (some .boolean) ∈ al := wl (i := 584) rfl rfl
abbrev kb_Mod_isNothing : ByteArray := prog_6_method_16_code
abbrev ky_Mod_isNothing : MethodName := ⟨"DecimalTruthModel", "isNothing", "(II)Z"⟩
set_option maxRecDepth 10000 in
theorem cd_Mod_isNothing : Cond.code ky_Mod_isNothing kb_Mod_isNothing 4 (some .boolean) ∈ al := wl (i := 588) rfl rfl
abbrev kb_Mod_put : ByteArray := prog_6_method_17_code
abbrev ky_Mod_put : MethodName := ⟨"DecimalTruthModel", "put", "(JIIZ)Z"⟩
set_option maxRecDepth 10000 in
theorem cd_Mod_put : Cond.code ky_Mod_put kb_Mod_put 12 (some .boolean) ∈ al := wl (i := 592) rfl rfl
abbrev kb_Mod_nearest : ByteArray := prog_6_method_18_code
abbrev ky_Mod_nearest : MethodName := ⟨"DecimalTruthModel", "nearest", "()J"⟩
set_option maxRecDepth 10000 in
theorem cd_Mod_nearest : Cond.code ky_Mod_nearest kb_Mod_nearest 1 (some .long) ∈ al := wl (i := 580) rfl rfl
abbrev kb_Mod_exactly : ByteArray := prog_6_method_19_code
abbrev ky_Mod_exactly : MethodName := ⟨"DecimalTruthModel", "exactly", "(JI)V"⟩
set_option maxRecDepth 10000 in
theorem cd_Mod_exactly : Cond.code ky_Mod_exactly kb_Mod_exactly 7 none ∈ al := wl (i := 603) rfl rfl
abbrev kb_Mod_compare : ByteArray := prog_6_method_20_code
abbrev ky_Mod_compare : MethodName := ⟨"DecimalTruthModel", "compare", "([III)I"⟩
set_option maxRecDepth 10000 in
theorem cd_Mod_compare : Cond.code ky_Mod_compare kb_Mod_compare 7 (some .int) ∈ al := wl (i := 608) rfl rfl
abbrev kb_Mod_enough : ByteArray := prog_6_method_21_code
abbrev ky_Mod_enough : MethodName := ⟨"DecimalTruthModel", "enough", "()I"⟩
set_option maxRecDepth 10000 in
theorem cd_Mod_enough : Cond.code ky_Mod_enough kb_Mod_enough 12 (some .int) ∈ al := wl (i := 598) rfl rfl
abbrev kb_Mod_look : ByteArray := prog_6_method_22_code
abbrev ky_Mod_look : MethodName := ⟨"DecimalTruthModel", "look", "(I)I"⟩
set_option maxRecDepth 10000 in
theorem cd_Mod_look : Cond.code ky_Mod_look kb_Mod_look 2 (some .int) ∈ al := wl (i := 612) rfl rfl
abbrev kb_Mod_count : ByteArray := prog_6_method_23_code
abbrev ky_Mod_count : MethodName := ⟨"DecimalTruthModel", "count", "(I)I"⟩
set_option maxRecDepth 10000 in
theorem cd_Mod_count : Cond.code ky_Mod_count kb_Mod_count 2 (some .int) ∈ al := wl (i := 616) rfl rfl
abbrev kb_Dec_init : ByteArray := prog_2_method_1_code
abbrev ky_Dec_init : MethodName := ⟨"DecimalTruth$Decimal", "<init>", "()V"⟩
theorem cd_Dec_init : Cond.code ky_Dec_init kb_Dec_init 1 none ∈ al := wl (i := 29) rfl rfl
abbrev kb_Dec_beZero : ByteArray := prog_2_method_2_code
abbrev ky_Dec_beZero : MethodName := ⟨"DecimalTruth$Decimal", "beZero", "()V"⟩
theorem cd_Dec_beZero : Cond.code ky_Dec_beZero kb_Dec_beZero 1 none ∈ al := wl (i := 292) rfl rfl
abbrev kb_Dec_beStartOf : ByteArray := prog_2_method_3_code
abbrev ky_Dec_beStartOf : MethodName := ⟨"DecimalTruth$Decimal", "beStartOf", "(LDecimalTruth$Decimal;I)V"⟩
set_option maxRecDepth 10000 in
theorem cd_Dec_beStartOf : Cond.code ky_Dec_beStartOf kb_Dec_beStartOf 3 none ∈ al := wl (i := 424) rfl rfl
abbrev kb_Dec_append : ByteArray := prog_2_method_4_code
abbrev ky_Dec_append : MethodName := ⟨"DecimalTruth$Decimal", "append", "(I)V"⟩
theorem cd_Dec_append : Cond.code ky_Dec_append kb_Dec_append 2 none ∈ al := wl (i := 238) rfl rfl
abbrev kb_Dec_cutBehind : ByteArray := prog_2_method_5_code
abbrev ky_Dec_cutBehind : MethodName := ⟨"DecimalTruth$Decimal", "cutBehind", "(I)V"⟩
theorem cd_Dec_cutBehind : Cond.code ky_Dec_cutBehind kb_Dec_cutBehind 3 none ∈ al := wl (i := 308) rfl rfl
abbrev kb_Dec_goesUpBehind : ByteArray := prog_2_method_6_code
abbrev ky_Dec_goesUpBehind : MethodName := ⟨"DecimalTruth$Decimal", "goesUpBehind", "(I)Z"⟩
theorem cd_Dec_goesUpBehind : Cond.code ky_Dec_goesUpBehind kb_Dec_goesUpBehind 4 (some .boolean) ∈ al := wl (i := 313) rfl rfl
abbrev kb_Dec_settle : ByteArray := prog_2_method_7_code
abbrev ky_Dec_settle : MethodName := ⟨"DecimalTruth$Decimal", "settle", "(Z)V"⟩
theorem cd_Dec_settle : Cond.code ky_Dec_settle kb_Dec_settle 2 none ∈ al := wl (i := 317) rfl rfl
abbrev kb_Dec_goUp : ByteArray := prog_2_method_8_code
abbrev ky_Dec_goUp : MethodName := ⟨"DecimalTruth$Decimal", "goUp", "()V"⟩
theorem cd_Dec_goUp : Cond.code ky_Dec_goUp kb_Dec_goUp 1 none ∈ al := wl (i := 321) rfl rfl
abbrev kb_Dec_dropZerosAtEnd : ByteArray := prog_2_method_9_code
abbrev ky_Dec_dropZerosAtEnd : MethodName := ⟨"DecimalTruth$Decimal", "dropZerosAtEnd", "()V"⟩
theorem cd_Dec_dropZerosAtEnd : Cond.code ky_Dec_dropZerosAtEnd kb_Dec_dropZerosAtEnd 1 none ∈ al := wl (i := 242) rfl rfl
abbrev kb_Dec_against : ByteArray := prog_2_method_10_code
abbrev ky_Dec_against : MethodName := ⟨"DecimalTruth$Decimal", "against", "(LDecimalTruth$Decimal;)I"⟩
set_option maxRecDepth 10000 in
theorem cd_Dec_against : Cond.code ky_Dec_against kb_Dec_against 4 (some .int) ∈ al := wl (i := 432) rfl rfl
abbrev kb_Dec_read : ByteArray := prog_2_method_11_code
abbrev ky_Dec_read : MethodName := ⟨"DecimalTruth$Decimal", "read", "(LDecimalTruth$Groups;)V"⟩
theorem cd_Dec_read : Cond.code ky_Dec_read kb_Dec_read 3 none ∈ al := wl (i := 224) rfl rfl
abbrev kb_Dec_readGroup : ByteArray := prog_2_method_12_code
abbrev ky_Dec_readGroup : MethodName := ⟨"DecimalTruth$Decimal", "readGroup", "(J)V"⟩
theorem cd_Dec_readGroup : Cond.code ky_Dec_readGroup kb_Dec_readGroup 6 none ∈ al := wl (i := 232) rfl rfl
abbrev kb_Grp_init : ByteArray := prog_3_method_1_code
abbrev ky_Grp_init : MethodName := ⟨"DecimalTruth$Groups", "<init>", "()V"⟩
theorem cd_Grp_init : Cond.code ky_Grp_init kb_Grp_init 1 none ∈ al := wl (i := 52) rfl rfl
abbrev kb_Grp_placeOfFirst : ByteArray := prog_3_method_2_code
abbrev ky_Grp_placeOfFirst : MethodName := ⟨"DecimalTruth$Groups", "placeOfFirst", "()I"⟩
theorem cd_Grp_placeOfFirst : Cond.code ky_Grp_placeOfFirst kb_Grp_placeOfFirst 1 (some .int) ∈ al := wl (i := 228) rfl rfl
abbrev kb_Grp_hasSomethingBehindPoint : ByteArray := prog_3_method_3_code
abbrev ky_Grp_hasSomethingBehindPoint : MethodName := ⟨"DecimalTruth$Groups", "hasSomethingBehindPoint", "()Z"⟩
set_option maxRecDepth 10000 in
theorem cd_Grp_hasSomethingBehindPoint : Cond.code ky_Grp_hasSomethingBehindPoint kb_Grp_hasSomethingBehindPoint 1 (some .boolean) ∈ al := wl (i := 362) rfl rfl
abbrev kb_Grp_beProduct : ByteArray := prog_3_method_4_code
abbrev ky_Grp_beProduct : MethodName := ⟨"DecimalTruth$Groups", "beProduct", "(JI)V"⟩
theorem cd_Grp_beProduct : Cond.code ky_Grp_beProduct kb_Grp_beProduct 5 none ∈ al := wl (i := 204) rfl rfl
abbrev kb_Grp_load : ByteArray := prog_3_method_5_code
abbrev ky_Grp_load : MethodName := ⟨"DecimalTruth$Groups", "load", "(LDecimalTruth$Decimal;)V"⟩
theorem cd_Grp_load : Cond.code ky_Grp_load kb_Grp_load 5 none ∈ al := wl (i := 345) rfl rfl
abbrev kb_Grp_multiply : ByteArray := prog_3_method_6_code
abbrev ky_Grp_multiply : MethodName := ⟨"DecimalTruth$Groups", "multiply", "(II)J"⟩
theorem cd_Grp_multiply : Cond.code ky_Grp_multiply kb_Grp_multiply 8 (some .long) ∈ al := wl (i := 215) rfl rfl
abbrev kb_Grp_divide : ByteArray := prog_3_method_7_code
abbrev ky_Grp_divide : MethodName := ⟨"DecimalTruth$Groups", "divide", "(II)J"⟩
theorem cd_Grp_divide : Cond.code ky_Grp_divide kb_Grp_divide 10 (some .long) ∈ al := wl (i := 219) rfl rfl
abbrev kb_Wrd_init : ByteArray := prog_4_method_1_code
abbrev ky_Wrd_init : MethodName := ⟨"DecimalTruth$Words", "<init>", "()V"⟩
theorem cd_Wrd_init : Cond.code ky_Wrd_init kb_Wrd_init 1 none ∈ al := wl (i := 72) rfl rfl
abbrev kb_Wrd_load : ByteArray := prog_4_method_2_code
abbrev ky_Wrd_load : MethodName := ⟨"DecimalTruth$Words", "load", "(LDecimalTruth$Groups;)V"⟩
set_option maxRecDepth 10000 in
theorem cd_Wrd_load : Cond.code ky_Wrd_load kb_Wrd_load 4 none ∈ al := wl (i := 351) rfl rfl
abbrev kb_Wrd_roundedSize : ByteArray := prog_4_method_3_code
abbrev ky_Wrd_roundedSize : MethodName := ⟨"DecimalTruth$Words", "roundedSize", "()J"⟩
set_option maxRecDepth 10000 in
theorem cd_Wrd_roundedSize : Cond.code ky_Wrd_roundedSize kb_Wrd_roundedSize 9 (some .long) ∈ al := wl (i := 366) rfl rfl
abbrev kb_Wrd_roundHead : ByteArray := prog_4_method_4_code
abbrev ky_Wrd_roundHead : MethodName := ⟨"DecimalTruth$Words", "roundHead", "(JZI)J"⟩
set_option maxRecDepth 10000 in
theorem cd_Wrd_roundHead : Cond.code ky_Wrd_roundHead kb_Wrd_roundHead 13 (some .long) ∈ al := wl (i := 381) rfl rfl
abbrev kb_Wrd_firstThatIsNotZero : ByteArray := prog_4_method_5_code
abbrev ky_Wrd_firstThatIsNotZero : MethodName := ⟨"DecimalTruth$Words", "firstThatIsNotZero", "(I)I"⟩
set_option maxRecDepth 10000 in
theorem cd_Wrd_firstThatIsNotZero : Cond.code ky_Wrd_firstThatIsNotZero kb_Wrd_firstThatIsNotZero 3 (some .int) ∈ al := wl (i := 357) rfl rfl
abbrev kb_Wrd_isMoreFrom : ByteArray := prog_4_method_6_code
abbrev ky_Wrd_isMoreFrom : MethodName := ⟨"DecimalTruth$Words", "isMoreFrom", "(I)Z"⟩
set_option maxRecDepth 10000 in
theorem cd_Wrd_isMoreFrom : Cond.code ky_Wrd_isMoreFrom kb_Wrd_isMoreFrom 4 (some .boolean) ∈ al := wl (i := 378) rfl rfl
abbrev kb_Law_set : ByteArray := method_3_code
abbrev ky_Law_set : MethodName := ⟨"DecimalTruthLaw", "set", "(LDecimalTruth;J[J)I"⟩
abbrev kb_Law_digit : ByteArray := method_4_code
abbrev ky_Law_digit : MethodName := ⟨"DecimalTruthLaw", "digit", "(LDecimalTruth;I[J)I"⟩
abbrev kb_Law_clear : ByteArray := method_5_code
abbrev ky_Law_clear : MethodName := ⟨"DecimalTruthLaw", "clear", "(LDecimalTruth;ZI)I"⟩
abbrev kb_Law_round : ByteArray := method_6_code
abbrev ky_Law_round : MethodName := ⟨"DecimalTruthLaw", "round", "(LDecimalTruth;I[J)I"⟩
abbrev kb_Law_places : ByteArray := method_7_code
abbrev ky_Law_places : MethodName := ⟨"DecimalTruthLaw", "places", "(LDecimalTruth;I[J)I"⟩
abbrev kb_Law_nearest : ByteArray := method_8_code
abbrev ky_Law_nearest : MethodName := ⟨"DecimalTruthLaw", "nearest", "(LDecimalTruth;[J)I"⟩
abbrev kb_Law_enough : ByteArray := method_9_code
abbrev ky_Law_enough : MethodName := ⟨"DecimalTruthLaw", "enough", "(LDecimalTruth;[J)I"⟩
abbrev kb_Law_look : ByteArray := method_10_code
abbrev ky_Law_look : MethodName := ⟨"DecimalTruthLaw", "look", "(LDecimalTruth;I[J)I"⟩
abbrev kb_Law_count : ByteArray := method_11_code
abbrev ky_Law_count : MethodName := ⟨"DecimalTruthLaw", "count", "(LDecimalTruth;I[J)I"⟩
abbrev kb_JInt_compare : ByteArray := prog_11_method_40_code
abbrev ky_JInt_compare : MethodName := ⟨"java/lang/Integer", "compare", "(II)I"⟩
set_option maxRecDepth 10000 in
theorem cd_JInt_compare : Cond.code ky_JInt_compare kb_JInt_compare 2 (some .int) ∈ al := wl (i := 435) rfl rfl
abbrev kb_JInt_numberOfLeadingZeros : ByteArray := prog_11_method_47_code
abbrev ky_JInt_numberOfLeadingZeros : MethodName := ⟨"java/lang/Integer", "numberOfLeadingZeros", "(I)I"⟩
set_option maxRecDepth 10000 in
theorem cd_JInt_numberOfLeadingZeros : Cond.code ky_JInt_numberOfLeadingZeros kb_JInt_numberOfLeadingZeros 2 (some .int) ∈ al := wl (i := 372) rfl rfl
abbrev kb_JLon_numberOfLeadingZeros : ByteArray := prog_12_method_48_code
abbrev ky_JLon_numberOfLeadingZeros : MethodName := ⟨"java/lang/Long", "numberOfLeadingZeros", "(J)I"⟩
set_option maxRecDepth 10000 in
theorem cd_JLon_numberOfLeadingZeros : Cond.code ky_JLon_numberOfLeadingZeros kb_JLon_numberOfLeadingZeros 3 (some .int) ∈ al := wl (i := 369) rfl rfl
abbrev kb_JArr_fill : ByteArray := prog_18_method_101_code
abbrev ky_JArr_fill : MethodName := ⟨"java/util/Arrays", "fill", "([JJ)V"⟩
theorem cd_JArr_fill : Cond.code ky_JArr_fill kb_JArr_fill 5 none ∈ al := wl (i := 207) rfl rfl
end
section
/-! ints and longs of the machine as whole numbers -/
def zi (z : Int) : Int32 := Int32.ofInt z
def zj (z : Int) : Int64 := Int64.ofInt z
abbrev ri (z : Int) : Prop := -2147483648 ≤ z ∧ z ≤ 2147483647
abbrev rj (z : Int) : Prop := -9223372036854775808 ≤ z ∧ z ≤ 9223372036854775807
def b2 (b : Bool) : Int := cond b 1 0
theorem zi_toInt {z : Int} (h : ri z) : (zi z).toInt = z := Int32.toInt_ofInt_of_le (by have := h.1; omega) (by have := h.2; omega)
theorem zj_toInt {z : Int} (h : rj z) : (zj z).toInt = z := Int64.toInt_ofInt_of_le (by have := h.1; omega) (by have := h.2; omega)
theorem zi_of (x : Int32) : x = zi x.toInt := (Int32.ofInt_toInt x).symm
theorem zj_of (x : Int64) : x = zj x.toInt := (Int64.ofInt_toInt x).symm
theorem zi_ri (x : Int32) : ri x.toInt := ⟨by have := x.le_toInt; omega, by have := x.toInt_lt; omega⟩
theorem zj_rj (x : Int64) : rj x.toInt := ⟨by have := x.le_toInt; omega, by have := x.toInt_lt; omega⟩
theorem zi_add (a b : Int) : zi a + zi b = zi (a + b) := (Int32.ofInt_add a b).symm
theorem zi_sub (a b : Int) : zi a - zi b = zi (a - b) := (Int32.ofInt_sub a b).symm
theorem zi_mul (a b : Int) : zi a * zi b = zi (a * b) := (Int32.ofInt_mul a b).symm
theorem zi_neg (a : Int) : -zi a = zi (-a) := (Int32.ofInt_neg a).symm
theorem zj_add (a b : Int) : zj a + zj b = zj (a + b) := (Int64.ofInt_add a b).symm
theorem zj_sub (a b : Int) : zj a - zj b = zj (a - b) := (Int64.ofInt_sub a b).symm
theorem zj_mul (a b : Int) : zj a * zj b = zj (a * b) := (Int64.ofInt_mul a b).symm
theorem zj_neg (a : Int) : -zj a = zj (-a) := (Int64.ofInt_neg a).symm
theorem zi_lt {a b : Int} (ha : ri a) (hb : ri b) : zi a < zi b ↔ a < b := by rw [Int32.lt_iff_toInt_lt, zi_toInt ha, zi_toInt hb]
theorem zi_le {a b : Int} (ha : ri a) (hb : ri b) : zi a ≤ zi b ↔ a ≤ b := by rw [Int32.le_iff_toInt_le, zi_toInt ha, zi_toInt hb]
theorem zi_eq {a b : Int} (ha : ri a) (hb : ri b) : zi a = zi b ↔ a = b := by rw [← Int32.toInt_inj, zi_toInt ha, zi_toInt hb]
theorem zj_lt {a b : Int} (ha : rj a) (hb : rj b) : zj a < zj b ↔ a < b := by rw [Int64.lt_iff_toInt_lt, zj_toInt ha, zj_toInt hb]
theorem zj_le {a b : Int} (ha : rj a) (hb : rj b) : zj a ≤ zj b ↔ a ≤ b := by rw [Int64.le_iff_toInt_le, zj_toInt ha, zj_toInt hb]
theorem zj_eq {a b : Int} (ha : rj a) (hb : rj b) : zj a = zj b ↔ a = b := by rw [← Int64.toInt_inj, zj_toInt ha, zj_toInt hb]
theorem zi_0 : zi 0 = 0 := by decide
theorem zj_0 : zj 0 = 0 := by decide
theorem zi_div {a b : Int} (ha : 0 ≤ a) (ha2 : a ≤ 2147483647) (hb : 0 < b) (hb2 : b ≤ 2147483647) : zi a / zi b = zi (a / b) := by
  apply Int32.toInt.inj
  rw [Int32.toInt_div_of_ne_right, zi_toInt ⟨by omega, ha2⟩, zi_toInt ⟨by omega, hb2⟩, Int.tdiv_eq_ediv_of_nonneg ha, zi_toInt]
  · exact ⟨by have := Int.ediv_nonneg ha (Int.le_of_lt hb); omega, by have := Int.ediv_le_self b ha; omega⟩
  · intro h
    have h2 : (zi b).toInt = (-1 : Int32).toInt := by rw [h]
    rw [zi_toInt ⟨by omega, hb2⟩] at h2
    have h3 : (-1 : Int32).toInt = -1 := by decide
    omega
theorem zj_div {a b : Int} (ha : 0 ≤ a) (ha2 : a ≤ 9223372036854775807) (hb : 0 < b) (hb2 : b ≤ 9223372036854775807) : zj a / zj b = zj (a / b) := by
  apply Int64.toInt.inj
  rw [Int64.toInt_div_of_ne_right, zj_toInt ⟨by omega, ha2⟩, zj_toInt ⟨by omega, hb2⟩, Int.tdiv_eq_ediv_of_nonneg ha, zj_toInt]
  · exact ⟨by have := Int.ediv_nonneg ha (Int.le_of_lt hb); omega, by have := Int.ediv_le_self b ha; omega⟩
  · intro h
    have h2 : (zj b).toInt = (-1 : Int64).toInt := by rw [h]
    rw [zj_toInt ⟨by omega, hb2⟩] at h2
    have h3 : (-1 : Int64).toInt = -1 := by decide
    omega
theorem zi_rem {a b : Int} (ha : 0 ≤ a) (ha2 : a ≤ 2147483647) (hb : 0 < b) (hb2 : b ≤ 2147483647) : zi a - zi a / zi b * zi b = zi (a % b) := by
  rw [zi_div ha ha2 hb hb2, zi_mul, zi_sub, Int.emod_def, Int.mul_comm]
theorem zj_rem {a b : Int} (ha : 0 ≤ a) (ha2 : a ≤ 9223372036854775807) (hb : 0 < b) (hb2 : b ≤ 9223372036854775807) : zj a - zj a / zj b * zj b = zj (a % b) := by
  rw [zj_div ha ha2 hb hb2, zj_mul, zj_sub, Int.emod_def, Int.mul_comm]
theorem zi_nz {b : Int} (hb : ri b) (h : b ≠ 0) : ¬ zi b = 0 := by rw [← zi_0, zi_eq hb (by omega)]; exact h
theorem zj_nz {b : Int} (hb : rj b) (h : b ≠ 0) : ¬ zj b = 0 := by rw [← zj_0, zj_eq hb (by omega)]; exact h
theorem zi_nat {k : Nat} (h : k ≤ 2147483647) : (zi (k : Int)).toNatClampNeg = k := by
  show (Int32.ofInt (k : Int)).toNatClampNeg = k
  rw [Int32.toNatClampNeg_ofInt_of_le (by omega) (by omega)]; omega
theorem zi_in {k n : Nat} (hk : k < n) (hn : n ≤ 2147483647) : vp_in (zi (k : Int)) n := by
  intro h
  rcases h with h | h
  · rw [← zi_0, zi_lt ⟨by omega, by omega⟩ (by omega)] at h; omega
  · rw [zi_nat (by omega)] at h; omega
theorem zi_zj {a : Int} (h : ri a) : (zi a).toInt64 = zj a := by
  apply Int64.toInt.inj
  rw [Int32.toInt_toInt64, zi_toInt h, zj_toInt ⟨by omega, by omega⟩]
theorem zj_zi (a : Int) : (zj a).toInt32 = zi a := Int64.toInt32_ofInt
theorem zi_ofNat (k : Nat) : Int32.ofNat k = zi (k : Int) := Int32.ofInt_eq_ofNat.symm
theorem zj_ofNat (k : Nat) : Int64.ofNat k = zj (k : Int) := Int64.ofInt_eq_ofNat.symm
theorem zj_bv (a : Nat) : (zj (a : Int)).toBitVec = BitVec.ofNat 64 a := by
  show BitVec.ofInt 64 (a : Int) = _
  exact BitVec.ofInt_natCast 64 a
theorem zj_bve {a : Nat} {x : Int64} (h : x.toBitVec.toNat = a % 2 ^ 64) : x = zj (a : Int) := by
  apply Int64.toBitVec.inj
  apply BitVec.eq_of_toNat_eq
  rw [zj_bv, BitVec.toNat_ofNat, h]
theorem zj_modn (a : Nat) : zj ((a % 2 ^ 64 : Nat) : Int) = zj (a : Int) := zj_bve (a := a) (by rw [zj_bv, BitVec.toNat_ofNat, Nat.mod_mod])
theorem zi_sh63 {k : Nat} (h : k < 64) : ((zi (k : Int)).toInt64 &&& 63).toBitVec.toNat = k := by
  rw [zi_zj ⟨by omega, by omega⟩]
  show ((zj (k : Int)).toBitVec &&& (63 : Int64).toBitVec).toNat = k
  rw [zj_bv, BitVec.toNat_and, BitVec.toNat_ofNat, show (63 : Int64).toBitVec.toNat = 2 ^ 6 - 1 by decide, Nat.and_two_pow_sub_one_eq_mod]
  omega
theorem zj_shl {a k : Nat} (h : k < 64) : zj (a : Int) <<< ((zi (k : Int)).toInt64 &&& 63) = zj ((a * 2 ^ k : Nat) : Int) := by
  apply zj_bve
  rw [Int64.toBitVec_shiftLeft, BitVec.shiftLeft_eq', BitVec.toNat_shiftLeft]
  have h1 : (((zi (k : Int)).toInt64 &&& 63).toBitVec.smod 64).toNat = k := by
    have h2 : ((zi (k : Int)).toInt64 &&& 63).toBitVec = BitVec.ofNat 64 k := by
      apply BitVec.eq_of_toNat_eq
      rw [zi_sh63 h, BitVec.toNat_ofNat]; omega
    rw [h2]
    have h3 : ∀ j : Fin 64, ((BitVec.ofNat 64 j.val).smod 64).toNat = j.val := by decide +kernel
    exact h3 ⟨k, h⟩
  rw [h1, zj_bv, BitVec.toNat_ofNat, Nat.shiftLeft_eq, Nat.mod_mul_mod]
theorem zj_ushr {a k : Nat} (ha : a < 2 ^ 64) (h : k < 64) : ((zj (a : Int)).toUInt64 >>> ((zi (k : Int)).toInt64.toUInt64 &&& Int64.toUInt64 63)).toInt64 = zj ((a / 2 ^ k : Nat) : Int) := by
  apply zj_bve
  have h1 : ((zi (k : Int)).toInt64.toUInt64 &&& Int64.toUInt64 63).toNat = k := zi_sh63 h
  show ((zj (a : Int)).toUInt64 >>> ((zi (k : Int)).toInt64.toUInt64 &&& Int64.toUInt64 63)).toNat = _
  rw [UInt64.toNat_shiftRight, h1, Nat.shiftRight_eq_div_pow, Nat.mod_eq_of_lt h]
  have h2 : (zj (a : Int)).toUInt64.toNat = a := by
    show (zj (a : Int)).toBitVec.toNat = a
    rw [zj_bv, BitVec.toNat_ofNat]; omega
  rw [h2, Nat.mod_eq_of_lt (Nat.lt_of_le_of_lt (Nat.div_le_self _ _) ha)]
theorem zj_and {a b : Nat} (hb : b ≤ 64) : zj (a : Int) &&& zj ((2 ^ b - 1 : Nat) : Int) = zj ((a % 2 ^ b : Nat) : Int) := by
  apply zj_bve
  show ((zj (a : Int)).toBitVec &&& (zj ((2 ^ b - 1 : Nat) : Int)).toBitVec).toNat = _
  have hp : 2 ^ b ≤ 2 ^ 64 := Nat.pow_le_pow_right (by decide) hb
  have hq : 0 < 2 ^ b := Nat.pow_pos (by decide)
  rw [zj_bv, zj_bv, BitVec.toNat_and, BitVec.toNat_ofNat, BitVec.toNat_ofNat, Nat.mod_eq_of_lt (a := 2 ^ b - 1) (by omega), Nat.and_two_pow_sub_one_eq_mod, Nat.mod_mod_of_dvd _ (Nat.pow_dvd_pow 2 hb), Nat.mod_eq_of_lt (a := a % 2 ^ b)]
  exact Nat.lt_of_lt_of_le (Nat.mod_lt _ hq) hp
theorem zj_or {a b k : Nat} (hb : b < 2 ^ k) (hk : a * 2 ^ k + b < 2 ^ 64) : zj ((a * 2 ^ k : Nat) : Int) ||| zj (b : Int) = zj ((a * 2 ^ k + b : Nat) : Int) := by
  apply zj_bve
  show ((zj ((a * 2 ^ k : Nat) : Int)).toBitVec ||| (zj (b : Int)).toBitVec).toNat = _
  rw [zj_bv, zj_bv, BitVec.toNat_or, BitVec.toNat_ofNat, BitVec.toNat_ofNat, Nat.mod_eq_of_lt (a := a * 2 ^ k) (by omega), Nat.mod_eq_of_lt (a := b) (by omega), Nat.mod_eq_of_lt hk, ← Nat.shiftLeft_eq, Nat.shiftLeft_add_eq_or_of_lt hb]
theorem zj_or' {a b k : Nat} (hb : b < 2 ^ k) (hk : a * 2 ^ k + b < 2 ^ 64) : zj (b : Int) ||| zj ((a * 2 ^ k : Nat) : Int) = zj ((a * 2 ^ k + b : Nat) : Int) := by
  rw [Int64.or_comm]; exact zj_or hb hk
/-- a negative long and the number of its bits -/
theorem zj_wrap (a : Int) : zj (a + 18446744073709551616) = zj a := by
  rw [← zj_add]
  have h : zj 18446744073709551616 = 0 := by decide
  rw [h, Int64.add_zero]
theorem zj_wraps (a : Int) : zj (a - 18446744073709551616) = zj a := by
  rw [← zj_wrap (a - _)]; congr 1; omega
theorem zj_cmp {a b : Int} (ha : rj a) (hb : rj b) : lg_cmp (zj a) (zj b) = zi (if b < a then 1 else if a = b then 0 else -1) := by
  unfold lg_cmp
  by_cases h1 : b < a
  · rw [if_pos h1, if_pos ((zj_lt hb ha).mpr h1)]; decide
  · rw [if_neg h1, if_neg (fun h => h1 ((zj_lt hb ha).mp h))]
    by_cases h2 : a = b
    · rw [if_pos h2, if_pos ((zj_eq ha hb).mpr h2)]; decide
    · rw [if_neg h2, if_neg (fun h => h2 ((zj_eq ha hb).mp h))]; decide
end
section
/-! the layer: one walk judgement over a bundle K, a row an instruction -/
abbrev Kx : Type := Program × Launch × Env × Room × State × MethodId × Array Value × List Frame × Method × Code × va_G × (Nat → Prop) × (State → Prop)
def V (K : Kx) (nL : Nat) (ws : va_W) (k n pc : Nat) (lv : List (Nat × Value)) (st : List Value) : Prop :=
  match K with
  | (p, l, e, R, s, m, args, below, meth, c, D, A, Q) => ∀ (H : Heap) (locs : List Loc) (ls : Array Slot), va_P D clz ws H → va_D A ws → va_S A s.heap H locs → lv_has ls nL lv → W p l e R s m args below meth c H locs k n Q (F0 m pc ls st)
def Cx (K : Kx) (cI cJ : ClassId) (cc : ByteArray) (nL : Nat) (own : String) (rm : Room) : Prop :=
  match K with
  | (p, _, _, R, s, m, args, _, _, c, D, A, _) => p.tables.exec = Jvm.exec ∧ c.code = cc ∧ c.maxLocals = nL ∧ s.vm.findClass own = some m.cls ∧ (∀ w ∈ al, w.before args s = true) ∧ va_K D clz [(cI, .int), (cJ, .long)] s ∧ (∀ q : Nat, s.heap.size ≤ q → A q) ∧ R = rm ∧ (∀ w ∈ nl, va_Nw w s)
def lk : List (Nat × Value) → Nat → Option Value
  | [], _ => none
  | (j, v) :: t, i => cond (Nat.beq j i) (some v) (lk t i)
theorem lk_mem : ∀ (lv : List (Nat × Value)) (i : Nat) (v : Value), lk lv i = some v → (i, v) ∈ lv
  | [], _, _, h => by cases h
  | (j, w) :: t, i, v, h => by
    unfold lk at h
    cases hb : Nat.beq j i with
    | true =>
      rw [hb] at h
      have h1 : w = v := Option.some.inj h
      have h2 : j = i := Nat.eq_of_beq_eq_true hb
      rw [h1, h2]
      exact List.mem_cons_self
    | false =>
      rw [hb] at h
      exact List.mem_cons_of_mem _ (lk_mem t i v h)
theorem lk_at {ls : Array Slot} {nL : Nat} {lv : List (Nat × Value)} (h : lv_has ls nL lv) {i : Nat} {v : Value} (hk : lk lv i = some v) : ls[i]? = some (.val v) := h.2.2 (i, v) (lk_mem _ _ _ hk)
abbrev ai (cI : ClassId) (a n : Nat) (f : Nat → Nat) : Nat × va_E := (a, .inl (cI, n, .inl (fun i => zi (f i : Nat))))
abbrev aj (cJ : ClassId) (a n : Nat) (f : Nat → Nat) : Nat × va_E := (a, .inl (cJ, n, .inr (.inl (fun i => zj (f i : Nat)))))
abbrev oc (a ci : Nat) (fs : List Value) : Nat × va_E := (a, .inr (ci, fs))
abbrev vi (z : Int) : Value := .int (zi z)
abbrev vj (z : Int) : Value := .long (zj z)
def un (f : Nat → Nat) (k x : Nat) : Nat → Nat := fun j => if j = k then x else f j
theorem un_i (f : Nat → Nat) (k x : Nat) : upd (fun i => zi (f i : Nat)) k (zi (x : Nat)) = fun i => zi (un f k x i : Nat) := by
  funext j; unfold upd un; by_cases h : j = k
  · rw [if_pos h, if_pos h]
  · rw [if_neg h, if_neg h]
theorem un_j (f : Nat → Nat) (k x : Nat) : vp_updL (fun i => zj (f i : Nat)) k (zj (x : Nat)) = fun i => zj (un f k x i : Nat) := by
  funext j; unfold vp_updL un; by_cases h : j = k
  · rw [if_pos h, if_pos h]
  · rw [if_neg h, if_neg h]
section Layer
variable {K : Kx} {cI cJ : ClassId} {cc : ByteArray} {nL : Nat} {own : String} {rm : Room} {ws : va_W} {k n pc : Nat} {lv : List (Nat × Value)} {st : List Value}
theorem qv_lv (ks : List Nat) {lv' : List (Nat × Value)} (hl : lv_pick lv ks = lv') (h : V K nL ws k n pc lv' st) : V K nL ws k n pc lv st := by
  obtain ⟨p, l, e, R, s, m, args, below, meth, c, D, A, Q⟩ := K
  intro H locs ls hP hD hS hl0
  exact h H locs ls hP hD hS (lv_sub hl0 ks hl)
theorem qv_ws (is : List Nat) {ws' : va_W} (hn : va_nd is = true) (hs : is.map (fun i => ws[i]?) = ws'.map some) (h : V K nL ws' k n pc lv st) : V K nL ws k n pc lv st := by
  obtain ⟨p, l, e, R, s, m, args, below, meth, c, D, A, Q⟩ := K
  intro H locs ls hP hD hS hl0
  refine h H locs ls (hP.sub is ?_) (hD.sub is hn hs) hS hl0
  have h1 : ∀ (is : List Nat) (ws' : va_W), is.map (fun i => ws[i]?) = ws'.map some → is.filterMap (fun i => ws[i]?) = ws' := by
    intro is
    induction is with
    | nil => intro ws' h; cases ws' with
      | nil => rfl
      | cons a t => cases h
    | cons i is ih => intro ws' h; cases ws' with
      | nil => cases h
      | cons a t =>
        rw [List.map_cons, List.map_cons] at h
        injection h with h1 h2
        rw [List.filterMap_cons, h1]
        show a :: List.filterMap _ is = a :: t
        rw [ih t h2]
  exact h1 is ws' hs
theorem qv_eq {ws' : va_W} {k' n' pc' : Nat} {lv' : List (Nat × Value)} {st' : List Value} (h : V K nL ws' k' n' pc' lv' st') (h1 : ws = ws') (h2 : lv = lv') (h3 : st = st') (h4 : pc = pc' := by rfl) (h5 : k = k' := by rfl) (h6 : n = n' := by rfl) : V K nL ws k n pc lv st := by
  subst h1 h2 h3 h4 h5 h6; exact h
theorem qv_wide {k' n' : Nat} (h1 : k ≤ k') (h2 : n ≤ n') (h : V K nL ws k' n' pc lv st) : V K nL ws k n pc lv st := by
  obtain ⟨p, l, e, R, s, m, args, below, meth, c, D, A, Q⟩ := K
  intro H locs ls hP hD hS hl0
  exact W.widen h1 h2 (h H locs ls hP hD hS hl0)
theorem qv_iconst (C : Cx K cI cJ cc nL own rm) {z : Int} (d : decode cc pc = .ok (.iconst z, 1)) (h : V K nL ws k n (pc + 1) lv (vi z :: st)) : V K nL ws k n pc lv st := by
  obtain ⟨p, l, e, R, s, m, args, below, meth, c, D, A, Q⟩ := K
  obtain ⟨hx, hb, hml, hown, hts, hK, hA, hR, hnw⟩ := C
  intro H locs ls hP hD hS hl
  exact lv_iconst hx hb d rfl (h H locs ls hP hD hS hl)
theorem qv_bipush (C : Cx K cI cJ cc nL own rm) {z : Int} (hz : (Int8.ofInt z).toInt32 = zi z) (d : decode cc pc = .ok (.bipush z, 2)) (h : V K nL ws k n (pc + 2) lv (vi z :: st)) : V K nL ws k n pc lv st := by
  obtain ⟨p, l, e, R, s, m, args, below, meth, c, D, A, Q⟩ := K
  obtain ⟨hx, hb, hml, hown, hts, hK, hA, hR, hnw⟩ := C
  intro H locs ls hP hD hS hl
  exact lv_bipush hx hb d hz (h H locs ls hP hD hS hl)
theorem qv_sipush (C : Cx K cI cJ cc nL own rm) {z : Int} (hz : (Int16.ofInt z).toInt32 = zi z) (d : decode cc pc = .ok (.sipush z, 3)) (h : V K nL ws k n (pc + 3) lv (vi z :: st)) : V K nL ws k n pc lv st := by
  obtain ⟨p, l, e, R, s, m, args, below, meth, c, D, A, Q⟩ := K
  obtain ⟨hx, hb, hml, hown, hts, hK, hA, hR, hnw⟩ := C
  intro H locs ls hP hD hS hl
  exact lv_sipush hx hb d hz (h H locs ls hP hD hS hl)
theorem qv_lconst (C : Cx K cI cJ cc nL own rm) {i : Fin 2} {z : Int} (hz : Int64.ofNat (i : Nat) = zj z) (d : decode cc pc = .ok (.lconst i, 1)) (h : V K nL ws k n (pc + 1) lv (vj z :: st)) : V K nL ws k n pc lv st := by
  obtain ⟨p, l, e, R, s, m, args, below, meth, c, D, A, Q⟩ := K
  obtain ⟨hx, hb, hml, hown, hts, hK, hA, hR, hnw⟩ := C
  intro H locs ls hP hD hS hl
  exact lv_lconst hx hb d hz (h H locs ls hP hD hS hl)
theorem qv_ldc (C : Cx K cI cJ cc nL own rm) {ix : Nat} {z : Int} (hw : Cond.constant own ix (zi z) ∈ al) (d : decode cc pc = .ok (.ldc ix, 2)) (h : V K nL ws k n (pc + 2) lv (vi z :: st)) : V K nL ws k n pc lv st := by
  obtain ⟨p, l, e, R, s, m, args, below, meth, c, D, A, Q⟩ := K
  obtain ⟨hx, hb, hml, hown, hts, hK, hA, hR, hnw⟩ := C
  intro H locs ls hP hD hS hl
  exact lv_ldc hx hb hown (hts _ hw) d (h H locs ls hP hD hS hl)
theorem qv_ldcw (C : Cx K cI cJ cc nL own rm) {ix : Nat} {z : Int} (hw : Cond.constant own ix (zi z) ∈ al) (d : decode cc pc = .ok (.ldc_w ix, 3)) (h : V K nL ws k n (pc + 3) lv (vi z :: st)) : V K nL ws k n pc lv st := by
  obtain ⟨p, l, e, R, s, m, args, below, meth, c, D, A, Q⟩ := K
  obtain ⟨hx, hb, hml, hown, hts, hK, hA, hR, hnw⟩ := C
  intro H locs ls hP hD hS hl
  exact lv_ldcw hx hb hown (hts _ hw) d (h H locs ls hP hD hS hl)
theorem qv_ldc2 (C : Cx K cI cJ cc nL own rm) {ix : Nat} {z : Int} (hw : Cond.constantLong own ix (zj z) ∈ al) (d : decode cc pc = .ok (.ldc2_w ix, 3)) (h : V K nL ws k n (pc + 3) lv (vj z :: st)) : V K nL ws k n pc lv st := by
  obtain ⟨p, l, e, R, s, m, args, below, meth, c, D, A, Q⟩ := K
  obtain ⟨hx, hb, hml, hown, hts, hK, hA, hR, hnw⟩ := C
  intro H locs ls hP hD hS hl
  exact lv_ldc2 hx hb hown (hts _ hw) d (h H locs ls hP hD hS hl)
theorem qv_iload_n (C : Cx K cI cJ cc nL own rm) {i : Fin 4} {x : Int32} (hl0 : lk lv i = some (.int x)) (d : decode cc pc = .ok (.iload_n i, 1)) (h : V K nL ws k n (pc + 1) lv (.int x :: st)) : V K nL ws k n pc lv st := by
  obtain ⟨p, l, e, R, s, m, args, below, meth, c, D, A, Q⟩ := K
  obtain ⟨hx, hb, hml, hown, hts, hK, hA, hR, hnw⟩ := C
  intro H locs ls hP hD hS hl
  exact lv_iload_n hx hb d rfl (lk_at hl hl0) (h H locs ls hP hD hS hl)
theorem qv_iload (C : Cx K cI cJ cc nL own rm) {i : Nat} {x : Int32} (hl0 : lk lv i = some (.int x)) (d : decode cc pc = .ok (.iload i, 2)) (h : V K nL ws k n (pc + 2) lv (.int x :: st)) : V K nL ws k n pc lv st := by
  obtain ⟨p, l, e, R, s, m, args, below, meth, c, D, A, Q⟩ := K
  obtain ⟨hx, hb, hml, hown, hts, hK, hA, hR, hnw⟩ := C
  intro H locs ls hP hD hS hl
  exact lv_iload hx hb d (lk_at hl hl0) (h H locs ls hP hD hS hl)
theorem qv_lload_n (C : Cx K cI cJ cc nL own rm) {i : Fin 4} {x : Int64} (hl0 : lk lv i = some (.long x)) (d : decode cc pc = .ok (.lload_n i, 1)) (h : V K nL ws k n (pc + 1) lv (.long x :: st)) : V K nL ws k n pc lv st := by
  obtain ⟨p, l, e, R, s, m, args, below, meth, c, D, A, Q⟩ := K
  obtain ⟨hx, hb, hml, hown, hts, hK, hA, hR, hnw⟩ := C
  intro H locs ls hP hD hS hl
  exact lv_lload_n hx hb d rfl (lk_at hl hl0) (h H locs ls hP hD hS hl)
theorem qv_lload (C : Cx K cI cJ cc nL own rm) {i : Nat} {x : Int64} (hl0 : lk lv i = some (.long x)) (d : decode cc pc = .ok (.lload i, 2)) (h : V K nL ws k n (pc + 2) lv (.long x :: st)) : V K nL ws k n pc lv st := by
  obtain ⟨p, l, e, R, s, m, args, below, meth, c, D, A, Q⟩ := K
  obtain ⟨hx, hb, hml, hown, hts, hK, hA, hR, hnw⟩ := C
  intro H locs ls hP hD hS hl
  exact lv_lload hx hb d (lk_at hl hl0) (h H locs ls hP hD hS hl)
theorem qv_aload_n (C : Cx K cI cJ cc nL own rm) {i : Fin 4} {x : Nat} (hl0 : lk lv i = some (.ref x)) (d : decode cc pc = .ok (.aload_n i, 1)) (h : V K nL ws k n (pc + 1) lv (.ref x :: st)) : V K nL ws k n pc lv st := by
  obtain ⟨p, l, e, R, s, m, args, below, meth, c, D, A, Q⟩ := K
  obtain ⟨hx, hb, hml, hown, hts, hK, hA, hR, hnw⟩ := C
  intro H locs ls hP hD hS hl
  exact lv_aload_n hx hb d rfl (lk_at hl hl0) (h H locs ls hP hD hS hl)
theorem qv_aload (C : Cx K cI cJ cc nL own rm) {i : Nat} {x : Nat} (hl0 : lk lv i = some (.ref x)) (d : decode cc pc = .ok (.aload i, 2)) (h : V K nL ws k n (pc + 2) lv (.ref x :: st)) : V K nL ws k n pc lv st := by
  obtain ⟨p, l, e, R, s, m, args, below, meth, c, D, A, Q⟩ := K
  obtain ⟨hx, hb, hml, hown, hts, hK, hA, hR, hnw⟩ := C
  intro H locs ls hP hD hS hl
  exact lv_aload hx hb d (lk_at hl hl0) (h H locs ls hP hD hS hl)
theorem qv_istore_n (C : Cx K cI cJ cc nL own rm) {i : Fin 4} {x : Int32} {lv' : List (Nat × Value)} (hn : i.val < nL) (hv : ((i : Nat), Value.int x) :: lv.filter (fun q => !(q.1 == (i : Nat)) && !(q.1 + 1 == (i : Nat) && q.2.category == 2)) = lv') (d : decode cc pc = .ok (.istore_n i, 1)) (h : V K nL ws k n (pc + 1) lv' st) : V K nL ws k n pc lv (Value.int x :: st) := by
  obtain ⟨p, l, e, R, s, m, args, below, meth, c, D, A, Q⟩ := K
  obtain ⟨hx, hb, hml, hown, hts, hK, hA, hR, hnw⟩ := C
  intro H locs ls hP hD hS hl
  exact lv_istore_n hx hb d rfl hl hn hv (fun ls' hl' => h H locs ls' hP hD hS hl')
theorem qv_istore (C : Cx K cI cJ cc nL own rm) {i : Nat} {x : Int32} {lv' : List (Nat × Value)} (hn : i < nL) (hv : (i, Value.int x) :: lv.filter (fun q => !(q.1 == i) && !(q.1 + 1 == i && q.2.category == 2)) = lv') (d : decode cc pc = .ok (.istore i, 2)) (h : V K nL ws k n (pc + 2) lv' st) : V K nL ws k n pc lv (Value.int x :: st) := by
  obtain ⟨p, l, e, R, s, m, args, below, meth, c, D, A, Q⟩ := K
  obtain ⟨hx, hb, hml, hown, hts, hK, hA, hR, hnw⟩ := C
  intro H locs ls hP hD hS hl
  exact lv_istore hx hb d hl hn hv (fun ls' hl' => h H locs ls' hP hD hS hl')
theorem qv_lstore_n (C : Cx K cI cJ cc nL own rm) {i : Fin 4} {x : Int64} {lv' : List (Nat × Value)} (hn : i.val + 1 < nL) (hv : ((i : Nat), Value.long x) :: lv.filter (fun q => !(q.1 == (i : Nat)) && (!(q.1 == (i : Nat) + 1) && !(q.1 + 1 == (i : Nat) && q.2.category == 2))) = lv') (d : decode cc pc = .ok (.lstore_n i, 1)) (h : V K nL ws k n (pc + 1) lv' st) : V K nL ws k n pc lv (Value.long x :: st) := by
  obtain ⟨p, l, e, R, s, m, args, below, meth, c, D, A, Q⟩ := K
  obtain ⟨hx, hb, hml, hown, hts, hK, hA, hR, hnw⟩ := C
  intro H locs ls hP hD hS hl
  exact lv_lstore_n hx hb d rfl hl hn hv (fun ls' hl' => h H locs ls' hP hD hS hl')
theorem qv_lstore (C : Cx K cI cJ cc nL own rm) {i : Nat} {x : Int64} {lv' : List (Nat × Value)} (hn : i + 1 < nL) (hv : (i, Value.long x) :: lv.filter (fun q => !(q.1 == i) && (!(q.1 == i + 1) && !(q.1 + 1 == i && q.2.category == 2))) = lv') (d : decode cc pc = .ok (.lstore i, 2)) (h : V K nL ws k n (pc + 2) lv' st) : V K nL ws k n pc lv (Value.long x :: st) := by
  obtain ⟨p, l, e, R, s, m, args, below, meth, c, D, A, Q⟩ := K
  obtain ⟨hx, hb, hml, hown, hts, hK, hA, hR, hnw⟩ := C
  intro H locs ls hP hD hS hl
  exact lv_lstore hx hb d hl hn hv (fun ls' hl' => h H locs ls' hP hD hS hl')
theorem qv_astore_n (C : Cx K cI cJ cc nL own rm) {i : Fin 4} {x : Nat} {lv' : List (Nat × Value)} (hn : i.val < nL) (hv : ((i : Nat), Value.ref x) :: lv.filter (fun q => !(q.1 == (i : Nat)) && !(q.1 + 1 == (i : Nat) && q.2.category == 2)) = lv') (d : decode cc pc = .ok (.astore_n i, 1)) (h : V K nL ws k n (pc + 1) lv' st) : V K nL ws k n pc lv (Value.ref x :: st) := by
  obtain ⟨p, l, e, R, s, m, args, below, meth, c, D, A, Q⟩ := K
  obtain ⟨hx, hb, hml, hown, hts, hK, hA, hR, hnw⟩ := C
  intro H locs ls hP hD hS hl
  exact lv_astore_n hx hb d rfl hl hn hv (fun ls' hl' => h H locs ls' hP hD hS hl')
theorem qv_astore (C : Cx K cI cJ cc nL own rm) {i : Nat} {x : Nat} {lv' : List (Nat × Value)} (hn : i < nL) (hv : (i, Value.ref x) :: lv.filter (fun q => !(q.1 == i) && !(q.1 + 1 == i && q.2.category == 2)) = lv') (d : decode cc pc = .ok (.astore i, 2)) (h : V K nL ws k n (pc + 2) lv' st) : V K nL ws k n pc lv (Value.ref x :: st) := by
  obtain ⟨p, l, e, R, s, m, args, below, meth, c, D, A, Q⟩ := K
  obtain ⟨hx, hb, hml, hown, hts, hK, hA, hR, hnw⟩ := C
  intro H locs ls hP hD hS hl
  exact lv_astore hx hb d hl hn hv (fun ls' hl' => h H locs ls' hP hD hS hl')
theorem qv_iinc (C : Cx K cI cJ cc nL own rm) {i j : Nat} {a z r : Int} {lv' : List (Nat × Value)} (er : a + z = r) (hj : lv[j]? = some (i, vi a)) (hn : i < nL) (hv : (i, vi r) :: lv.filter (fun q => !(q.1 == i) && !(q.1 + 1 == i && q.2.category == 2)) = lv') (d : decode cc pc = .ok (.iinc i z, 3)) (h : V K nL ws k n (pc + 3) lv' st) : V K nL ws k n pc lv st := by
  obtain ⟨p, l, e, R, s, m, args, below, meth, c, D, A, Q⟩ := K
  obtain ⟨hx, hb, hml, hown, hts, hK, hA, hR, hnw⟩ := C
  intro H locs ls hP hD hS hl
  subst er
  exact lv_iinc hx hb d hl hj (zi_add a z) hn hv (fun ls' hl' => h H locs ls' hP hD hS hl')
theorem qv_iincW (C : Cx K cI cJ cc nL own rm) {i j : Nat} {a z r : Int} {lv' : List (Nat × Value)} (er : a + z = r) (hj : lv[j]? = some (i, vi a)) (hn : i < nL) (hv : (i, vi r) :: lv.filter (fun q => !(q.1 == i) && !(q.1 + 1 == i && q.2.category == 2)) = lv') (d : decode cc pc = .ok (.iinc i z, 6)) (h : V K nL ws k n (pc + 6) lv' st) : V K nL ws k n pc lv st := by
  obtain ⟨p, l, e, R, s, m, args, below, meth, c, D, A, Q⟩ := K
  obtain ⟨hx, hb, hml, hown, hts, hK, hA, hR, hnw⟩ := C
  intro H locs ls hP hD hS hl
  subst er
  exact lv_iincW hx hb d hl hj (zi_add a z) hn hv (fun ls' hl' => h H locs ls' hP hD hS hl')
theorem qv_iadd (C : Cx K cI cJ cc nL own rm) {a b r : Int} (er : a + b = r) (d : decode cc pc = .ok (.iadd, 1)) (h : V K nL ws k n (pc + 1) lv (vi r :: st)) : V K nL ws k n pc lv (vi b :: vi a :: st) := by
  subst er
  obtain ⟨p, l, e, R, s, m, args, below, meth, c, D, A, Q⟩ := K
  obtain ⟨hx, hb, hml, hown, hts, hK, hA, hR, hnw⟩ := C
  intro H locs ls hP hD hS hl
  refine lv_iadd hx hb d ?_
  rw [zi_add]
  exact h H locs ls hP hD hS hl
theorem qv_isub (C : Cx K cI cJ cc nL own rm) {a b r : Int} (er : a - b = r) (d : decode cc pc = .ok (.isub, 1)) (h : V K nL ws k n (pc + 1) lv (vi r :: st)) : V K nL ws k n pc lv (vi b :: vi a :: st) := by
  subst er
  obtain ⟨p, l, e, R, s, m, args, below, meth, c, D, A, Q⟩ := K
  obtain ⟨hx, hb, hml, hown, hts, hK, hA, hR, hnw⟩ := C
  intro H locs ls hP hD hS hl
  refine lv_isub hx hb d ?_
  rw [zi_sub]
  exact h H locs ls hP hD hS hl
theorem qv_imul (C : Cx K cI cJ cc nL own rm) {a b r : Int} (er : a * b = r) (d : decode cc pc = .ok (.imul, 1)) (h : V K nL ws k n (pc + 1) lv (vi r :: st)) : V K nL ws k n pc lv (vi b :: vi a :: st) := by
  subst er
  obtain ⟨p, l, e, R, s, m, args, below, meth, c, D, A, Q⟩ := K
  obtain ⟨hx, hb, hml, hown, hts, hK, hA, hR, hnw⟩ := C
  intro H locs ls hP hD hS hl
  refine lv_imul hx hb d ?_
  rw [zi_mul]
  exact h H locs ls hP hD hS hl
theorem qv_ladd (C : Cx K cI cJ cc nL own rm) {a b r : Int} (er : a + b = r) (d : decode cc pc = .ok (.ladd, 1)) (h : V K nL ws k n (pc + 1) lv (vj r :: st)) : V K nL ws k n pc lv (vj b :: vj a :: st) := by
  subst er
  obtain ⟨p, l, e, R, s, m, args, below, meth, c, D, A, Q⟩ := K
  obtain ⟨hx, hb, hml, hown, hts, hK, hA, hR, hnw⟩ := C
  intro H locs ls hP hD hS hl
  refine lv_ladd hx hb d ?_
  rw [zj_add]
  exact h H locs ls hP hD hS hl
theorem qv_lsub (C : Cx K cI cJ cc nL own rm) {a b r : Int} (er : a - b = r) (d : decode cc pc = .ok (.lsub, 1)) (h : V K nL ws k n (pc + 1) lv (vj r :: st)) : V K nL ws k n pc lv (vj b :: vj a :: st) := by
  subst er
  obtain ⟨p, l, e, R, s, m, args, below, meth, c, D, A, Q⟩ := K
  obtain ⟨hx, hb, hml, hown, hts, hK, hA, hR, hnw⟩ := C
  intro H locs ls hP hD hS hl
  refine lv_lsub hx hb d ?_
  rw [zj_sub]
  exact h H locs ls hP hD hS hl
theorem qv_lmul (C : Cx K cI cJ cc nL own rm) {a b r : Int} (er : a * b = r) (d : decode cc pc = .ok (.lmul, 1)) (h : V K nL ws k n (pc + 1) lv (vj r :: st)) : V K nL ws k n pc lv (vj b :: vj a :: st) := by
  subst er
  obtain ⟨p, l, e, R, s, m, args, below, meth, c, D, A, Q⟩ := K
  obtain ⟨hx, hb, hml, hown, hts, hK, hA, hR, hnw⟩ := C
  intro H locs ls hP hD hS hl
  refine lv_lmul hx hb d ?_
  rw [zj_mul]
  exact h H locs ls hP hD hS hl
theorem qv_idiv (C : Cx K cI cJ cc nL own rm) {a b r : Int} (ha : 0 ≤ a) (ha2 : a ≤ 2147483647) (hb0 : 0 < b) (hb2 : b ≤ 2147483647) (er : a / b = r) (d : decode cc pc = .ok (.idiv, 1)) (h : V K nL ws k n (pc + 1) lv (vi r :: st)) : V K nL ws k n pc lv (vi b :: vi a :: st) := by
  subst er
  obtain ⟨p, l, e, R, s, m, args, below, meth, c, D, A, Q⟩ := K
  obtain ⟨hx, hb, hml, hown, hts, hK, hA, hR, hnw⟩ := C
  intro H locs ls hP hD hS hl
  refine lv_idiv hx hb d (zi_nz ⟨by omega, hb2⟩ (by omega)) ?_
  rw [zi_div ha ha2 hb0 hb2]
  exact h H locs ls hP hD hS hl
theorem qv_irem (C : Cx K cI cJ cc nL own rm) {a b r : Int} (ha : 0 ≤ a) (ha2 : a ≤ 2147483647) (hb0 : 0 < b) (hb2 : b ≤ 2147483647) (er : a % b = r) (d : decode cc pc = .ok (.irem, 1)) (h : V K nL ws k n (pc + 1) lv (vi r :: st)) : V K nL ws k n pc lv (vi b :: vi a :: st) := by
  subst er
  obtain ⟨p, l, e, R, s, m, args, below, meth, c, D, A, Q⟩ := K
  obtain ⟨hx, hb, hml, hown, hts, hK, hA, hR, hnw⟩ := C
  intro H locs ls hP hD hS hl
  refine lv_irem hx hb d (zi_nz ⟨by omega, hb2⟩ (by omega)) ?_
  rw [zi_rem ha ha2 hb0 hb2]
  exact h H locs ls hP hD hS hl
theorem qv_ldiv (C : Cx K cI cJ cc nL own rm) {a b r : Int} (ha : 0 ≤ a) (ha2 : a ≤ 9223372036854775807) (hb0 : 0 < b) (hb2 : b ≤ 9223372036854775807) (er : a / b = r) (d : decode cc pc = .ok (.ldiv, 1)) (h : V K nL ws k n (pc + 1) lv (vj r :: st)) : V K nL ws k n pc lv (vj b :: vj a :: st) := by
  subst er
  obtain ⟨p, l, e, R, s, m, args, below, meth, c, D, A, Q⟩ := K
  obtain ⟨hx, hb, hml, hown, hts, hK, hA, hR, hnw⟩ := C
  intro H locs ls hP hD hS hl
  refine lv_ldiv hx hb d (zj_nz ⟨by omega, hb2⟩ (by omega)) ?_
  rw [zj_div ha ha2 hb0 hb2]
  exact h H locs ls hP hD hS hl
theorem qv_lrem (C : Cx K cI cJ cc nL own rm) {a b r : Int} (ha : 0 ≤ a) (ha2 : a ≤ 9223372036854775807) (hb0 : 0 < b) (hb2 : b ≤ 9223372036854775807) (er : a % b = r) (d : decode cc pc = .ok (.lrem, 1)) (h : V K nL ws k n (pc + 1) lv (vj r :: st)) : V K nL ws k n pc lv (vj b :: vj a :: st) := by
  subst er
  obtain ⟨p, l, e, R, s, m, args, below, meth, c, D, A, Q⟩ := K
  obtain ⟨hx, hb, hml, hown, hts, hK, hA, hR, hnw⟩ := C
  intro H locs ls hP hD hS hl
  refine lv_lrem hx hb d (zj_nz ⟨by omega, hb2⟩ (by omega)) ?_
  rw [zj_rem ha ha2 hb0 hb2]
  exact h H locs ls hP hD hS hl
theorem qv_ineg (C : Cx K cI cJ cc nL own rm) {a : Int} (d : decode cc pc = .ok (.ineg, 1)) (h : V K nL ws k n (pc + 1) lv (vi (-a) :: st)) : V K nL ws k n pc lv (vi a :: st) := by
  obtain ⟨p, l, e, R, s, m, args, below, meth, c, D, A, Q⟩ := K
  obtain ⟨hx, hb, hml, hown, hts, hK, hA, hR, hnw⟩ := C
  intro H locs ls hP hD hS hl
  refine lv_ineg hx hb d ?_
  rw [zi_neg]
  exact h H locs ls hP hD hS hl
theorem qv_i2l (C : Cx K cI cJ cc nL own rm) {a : Int} (ha : ri a) (d : decode cc pc = .ok (.i2l, 1)) (h : V K nL ws k n (pc + 1) lv (vj a :: st)) : V K nL ws k n pc lv (vi a :: st) := by
  obtain ⟨p, l, e, R, s, m, args, below, meth, c, D, A, Q⟩ := K
  obtain ⟨hx, hb, hml, hown, hts, hK, hA, hR, hnw⟩ := C
  intro H locs ls hP hD hS hl
  exact lv_i2l hx hb d (zi_zj ha) (h H locs ls hP hD hS hl)
theorem qv_l2i (C : Cx K cI cJ cc nL own rm) {a : Int} (d : decode cc pc = .ok (.l2i, 1)) (h : V K nL ws k n (pc + 1) lv (vi a :: st)) : V K nL ws k n pc lv (vj a :: st) := by
  obtain ⟨p, l, e, R, s, m, args, below, meth, c, D, A, Q⟩ := K
  obtain ⟨hx, hb, hml, hown, hts, hK, hA, hR, hnw⟩ := C
  intro H locs ls hP hD hS hl
  exact lv_l2i hx hb d (zj_zi a) (h H locs ls hP hD hS hl)
theorem qv_lshl (C : Cx K cI cJ cc nL own rm) {a b : Int} (x y : Nat) (hx1 : a = (x : Int)) (hy1 : b = (y : Int)) (hy : y < 64) (d : decode cc pc = .ok (.lshl, 1)) (h : V K nL ws k n (pc + 1) lv (vj ((x * 2 ^ y : Nat) : Int) :: st)) : V K nL ws k n pc lv (vi b :: vj a :: st) := by
  obtain ⟨p, l, e, R, s, m, args, below, meth, c, D, A, Q⟩ := K
  obtain ⟨hx, hb, hml, hown, hts, hK, hA, hR, hnw⟩ := C
  intro H locs ls hP hD hS hl
  subst hx1 hy1
  exact lv_lshl hx hb d (zj_shl hy) (h H locs ls hP hD hS hl)
theorem qv_lushr (C : Cx K cI cJ cc nL own rm) {a b : Int} (x y : Nat) (hx1 : a = (x : Int)) (hx2 : x < 18446744073709551616) (hy1 : b = (y : Int)) (hy : y < 64) (d : decode cc pc = .ok (.lushr, 1)) (h : V K nL ws k n (pc + 1) lv (vj ((x / 2 ^ y : Nat) : Int) :: st)) : V K nL ws k n pc lv (vi b :: vj a :: st) := by
  obtain ⟨p, l, e, R, s, m, args, below, meth, c, D, A, Q⟩ := K
  obtain ⟨hx, hb, hml, hown, hts, hK, hA, hR, hnw⟩ := C
  intro H locs ls hP hD hS hl
  subst hx1 hy1
  exact lv_lushr hx hb d (zj_ushr hx2 hy) (h H locs ls hP hD hS hl)
theorem qv_land (C : Cx K cI cJ cc nL own rm) {a b : Int} {r : Int} (hr : zj a &&& zj b = zj r) (d : decode cc pc = .ok (.land, 1)) (h : V K nL ws k n (pc + 1) lv (vj r :: st)) : V K nL ws k n pc lv (vj b :: vj a :: st) := by
  obtain ⟨p, l, e, R, s, m, args, below, meth, c, D, A, Q⟩ := K
  obtain ⟨hx, hb, hml, hown, hts, hK, hA, hR, hnw⟩ := C
  intro H locs ls hP hD hS hl
  refine lv_land hx hb d ?_
  rw [hr]
  exact h H locs ls hP hD hS hl
theorem qv_lor (C : Cx K cI cJ cc nL own rm) {a b : Int} {r : Int} (hr : zj a ||| zj b = zj r) (d : decode cc pc = .ok (.lor, 1)) (h : V K nL ws k n (pc + 1) lv (vj r :: st)) : V K nL ws k n pc lv (vj b :: vj a :: st) := by
  obtain ⟨p, l, e, R, s, m, args, below, meth, c, D, A, Q⟩ := K
  obtain ⟨hx, hb, hml, hown, hts, hK, hA, hR, hnw⟩ := C
  intro H locs ls hP hD hS hl
  refine lv_lor hx hb d ?_
  rw [hr]
  exact h H locs ls hP hD hS hl
theorem qv_iand (C : Cx K cI cJ cc nL own rm) {a b : Int} {r : Int} (hr : zi a &&& zi b = zi r) (d : decode cc pc = .ok (.iand, 1)) (h : V K nL ws k n (pc + 1) lv (vi r :: st)) : V K nL ws k n pc lv (vi b :: vi a :: st) := by
  obtain ⟨p, l, e, R, s, m, args, below, meth, c, D, A, Q⟩ := K
  obtain ⟨hx, hb, hml, hown, hts, hK, hA, hR, hnw⟩ := C
  intro H locs ls hP hD hS hl
  refine lv_iand hx hb d ?_
  rw [hr]
  exact h H locs ls hP hD hS hl
theorem qv_ior (C : Cx K cI cJ cc nL own rm) {a b : Int} {r : Int} (hr : zi a ||| zi b = zi r) (d : decode cc pc = .ok (.ior, 1)) (h : V K nL ws k n (pc + 1) lv (vi r :: st)) : V K nL ws k n pc lv (vi b :: vi a :: st) := by
  obtain ⟨p, l, e, R, s, m, args, below, meth, c, D, A, Q⟩ := K
  obtain ⟨hx, hb, hml, hown, hts, hK, hA, hR, hnw⟩ := C
  intro H locs ls hP hD hS hl
  refine lv_ior hx hb d ?_
  rw [hr]
  exact h H locs ls hP hD hS hl
theorem qv_lcmp (C : Cx K cI cJ cc nL own rm) {a b : Int} (ha : rj a) (hb0 : rj b) (d : decode cc pc = .ok (.lcmp, 1)) (h : V K nL ws k n (pc + 1) lv (vi (if b < a then 1 else if a = b then 0 else -1) :: st)) : V K nL ws k n pc lv (vj b :: vj a :: st) := by
  obtain ⟨p, l, e, R, s, m, args, below, meth, c, D, A, Q⟩ := K
  obtain ⟨hx, hb, hml, hown, hts, hK, hA, hR, hnw⟩ := C
  intro H locs ls hP hD hS hl
  refine W.lcmp hx hb d ?_
  rw [zj_cmp ha hb0]
  exact h H locs ls hP hD hS hl
theorem qv_dup (C : Cx K cI cJ cc nL own rm) {v : Value} (hv : v.category = 1) (d : decode cc pc = .ok (.dup, 1)) (h : V K nL ws k n (pc + 1) lv (v :: v :: st)) : V K nL ws k n pc lv (v :: st) := by
  obtain ⟨p, l, e, R, s, m, args, below, meth, c, D, A, Q⟩ := K
  obtain ⟨hx, hb, hml, hown, hts, hK, hA, hR, hnw⟩ := C
  intro H locs ls hP hD hS hl
  exact lv_dup hx hb d hv (h H locs ls hP hD hS hl)
theorem qv_pop (C : Cx K cI cJ cc nL own rm) {v : Value} (hv : v.category = 1) (d : decode cc pc = .ok (.pop, 1)) (h : V K nL ws k n (pc + 1) lv st) : V K nL ws k n pc lv (v :: st) := by
  obtain ⟨p, l, e, R, s, m, args, below, meth, c, D, A, Q⟩ := K
  obtain ⟨hx, hb, hml, hown, hts, hK, hA, hR, hnw⟩ := C
  intro H locs ls hP hD hS hl
  exact lv_pop hx hb d hv (h H locs ls hP hD hS hl)
theorem qv_pop2 (C : Cx K cI cJ cc nL own rm) {v : Value} (hv : v.category = 2) (d : decode cc pc = .ok (.pop2, 1)) (h : V K nL ws k n (pc + 1) lv st) : V K nL ws k n pc lv (v :: st) := by
  obtain ⟨p, l, e, R, s, m, args, below, meth, c, D, A, Q⟩ := K
  obtain ⟨hx, hb, hml, hown, hts, hK, hA, hR, hnw⟩ := C
  intro H locs ls hP hD hS hl
  exact lv_pop2_2 hx hb d hv (h H locs ls hP hD hS hl)
theorem qv_dup_x1 (C : Cx K cI cJ cc nL own rm) {v u : Value} (hv : v.category = 1) (hu : u.category = 1) (d : decode cc pc = .ok (.dup_x1, 1)) (h : V K nL ws k n (pc + 1) lv (v :: u :: v :: st)) : V K nL ws k n pc lv (v :: u :: st) := by
  obtain ⟨p, l, e, R, s, m, args, below, meth, c, D, A, Q⟩ := K
  obtain ⟨hx, hb, hml, hown, hts, hK, hA, hR, hnw⟩ := C
  intro H locs ls hP hD hS hl
  exact lv_dup_x1 hx hb d hv hu (h H locs ls hP hD hS hl)
theorem qv_dup2 (C : Cx K cI cJ cc nL own rm) {v u : Value} (hv : v.category = 1) (hu : u.category = 1) (d : decode cc pc = .ok (.dup2, 1)) (h : V K nL ws k n (pc + 1) lv (v :: u :: v :: u :: st)) : V K nL ws k n pc lv (v :: u :: st) := by
  obtain ⟨p, l, e, R, s, m, args, below, meth, c, D, A, Q⟩ := K
  obtain ⟨hx, hb, hml, hown, hts, hK, hA, hR, hnw⟩ := C
  intro H locs ls hP hD hS hl
  exact lv_dup2_11 hx hb d hv hu (h H locs ls hP hD hS hl)
theorem qv_dup2L (C : Cx K cI cJ cc nL own rm) {v : Value} (hv : v.category = 2) (d : decode cc pc = .ok (.dup2, 1)) (h : V K nL ws k n (pc + 1) lv (v :: v :: st)) : V K nL ws k n pc lv (v :: st) := by
  obtain ⟨p, l, e, R, s, m, args, below, meth, c, D, A, Q⟩ := K
  obtain ⟨hx, hb, hml, hown, hts, hK, hA, hR, hnw⟩ := C
  intro H locs ls hP hD hS hl
  exact lv_dup2_2 hx hb d hv (h H locs ls hP hD hS hl)
theorem qv_ifeq (C : Cx K cI cJ cc nL own rm) {a off : Int} {tgt : Nat} (ha : ri a) (ht : (pc : Int) + off = (tgt : Int)) (d : decode cc pc = .ok (.ifCond .eq off, 3)) (h1 : a = 0 → V K nL ws k n tgt lv st) (h2 : ¬ a = 0 → V K nL ws k n (pc + 3) lv st) : V K nL ws k n pc lv (vi a :: st) := by
  obtain ⟨p, l, e, R, s, m, args, below, meth, c, D, A, Q⟩ := K
  obtain ⟨hx, hb, hml, hown, hts, hK, hA, hR, hnw⟩ := C
  intro H locs ls hP hD hS hl
  have e0 : zi a = 0 ↔ a = 0 := by rw [← zi_0]; exact zi_eq ha (by omega)
  exact lv_if_eq hx hb d ht (fun q => h1 (e0.mp q) H locs ls hP hD hS hl) (fun q => h2 (fun q2 => q (e0.mpr q2)) H locs ls hP hD hS hl)
theorem qv_ifne (C : Cx K cI cJ cc nL own rm) {a off : Int} {tgt : Nat} (ha : ri a) (ht : (pc : Int) + off = (tgt : Int)) (d : decode cc pc = .ok (.ifCond .ne off, 3)) (h1 : a ≠ 0 → V K nL ws k n tgt lv st) (h2 : a = 0 → V K nL ws k n (pc + 3) lv st) : V K nL ws k n pc lv (vi a :: st) := by
  obtain ⟨p, l, e, R, s, m, args, below, meth, c, D, A, Q⟩ := K
  obtain ⟨hx, hb, hml, hown, hts, hK, hA, hR, hnw⟩ := C
  intro H locs ls hP hD hS hl
  have e0 : zi a = 0 ↔ a = 0 := by rw [← zi_0]; exact zi_eq ha (by omega)
  exact lv_if_ne hx hb d ht (fun q => h1 (fun q2 => q (e0.mpr q2)) H locs ls hP hD hS hl) (fun q => h2 (e0.mp q) H locs ls hP hD hS hl)
theorem qv_iflt (C : Cx K cI cJ cc nL own rm) {a off : Int} {tgt : Nat} (ha : ri a) (ht : (pc : Int) + off = (tgt : Int)) (d : decode cc pc = .ok (.ifCond .lt off, 3)) (h1 : a < 0 → V K nL ws k n tgt lv st) (h2 : ¬ a < 0 → V K nL ws k n (pc + 3) lv st) : V K nL ws k n pc lv (vi a :: st) := by
  obtain ⟨p, l, e, R, s, m, args, below, meth, c, D, A, Q⟩ := K
  obtain ⟨hx, hb, hml, hown, hts, hK, hA, hR, hnw⟩ := C
  intro H locs ls hP hD hS hl
  have e0 : zi a < 0 ↔ a < 0 := by rw [← zi_0]; exact zi_lt ha (by omega)
  exact lv_if_lt hx hb d ht (fun q => h1 (e0.mp q) H locs ls hP hD hS hl) (fun q => h2 (fun q2 => q (e0.mpr q2)) H locs ls hP hD hS hl)
theorem qv_ifge (C : Cx K cI cJ cc nL own rm) {a off : Int} {tgt : Nat} (ha : ri a) (ht : (pc : Int) + off = (tgt : Int)) (d : decode cc pc = .ok (.ifCond .ge off, 3)) (h1 : 0 ≤ a → V K nL ws k n tgt lv st) (h2 : ¬ 0 ≤ a → V K nL ws k n (pc + 3) lv st) : V K nL ws k n pc lv (vi a :: st) := by
  obtain ⟨p, l, e, R, s, m, args, below, meth, c, D, A, Q⟩ := K
  obtain ⟨hx, hb, hml, hown, hts, hK, hA, hR, hnw⟩ := C
  intro H locs ls hP hD hS hl
  have e0 : (0 : Int32) ≤ zi a ↔ 0 ≤ a := by rw [← zi_0]; exact zi_le (by omega) ha
  exact lv_if_ge hx hb d ht (fun q => h1 (e0.mp q) H locs ls hP hD hS hl) (fun q => h2 (fun q2 => q (e0.mpr q2)) H locs ls hP hD hS hl)
theorem qv_ifgt (C : Cx K cI cJ cc nL own rm) {a off : Int} {tgt : Nat} (ha : ri a) (ht : (pc : Int) + off = (tgt : Int)) (d : decode cc pc = .ok (.ifCond .gt off, 3)) (h1 : 0 < a → V K nL ws k n tgt lv st) (h2 : ¬ 0 < a → V K nL ws k n (pc + 3) lv st) : V K nL ws k n pc lv (vi a :: st) := by
  obtain ⟨p, l, e, R, s, m, args, below, meth, c, D, A, Q⟩ := K
  obtain ⟨hx, hb, hml, hown, hts, hK, hA, hR, hnw⟩ := C
  intro H locs ls hP hD hS hl
  have e0 : (0 : Int32) < zi a ↔ 0 < a := by rw [← zi_0]; exact zi_lt (by omega) ha
  exact lv_if_gt hx hb d ht (fun q => h1 (e0.mp q) H locs ls hP hD hS hl) (fun q => h2 (fun q2 => q (e0.mpr q2)) H locs ls hP hD hS hl)
theorem qv_ifle (C : Cx K cI cJ cc nL own rm) {a off : Int} {tgt : Nat} (ha : ri a) (ht : (pc : Int) + off = (tgt : Int)) (d : decode cc pc = .ok (.ifCond .le off, 3)) (h1 : a ≤ 0 → V K nL ws k n tgt lv st) (h2 : ¬ a ≤ 0 → V K nL ws k n (pc + 3) lv st) : V K nL ws k n pc lv (vi a :: st) := by
  obtain ⟨p, l, e, R, s, m, args, below, meth, c, D, A, Q⟩ := K
  obtain ⟨hx, hb, hml, hown, hts, hK, hA, hR, hnw⟩ := C
  intro H locs ls hP hD hS hl
  have e0 : zi a ≤ 0 ↔ a ≤ 0 := by rw [← zi_0]; exact zi_le ha (by omega)
  exact lv_if_le hx hb d ht (fun q => h1 (e0.mp q) H locs ls hP hD hS hl) (fun q => h2 (fun q2 => q (e0.mpr q2)) H locs ls hP hD hS hl)
theorem qv_iceq (C : Cx K cI cJ cc nL own rm) {a b off : Int} {tgt : Nat} (ha : ri a) (hb0 : ri b) (ht : (pc : Int) + off = (tgt : Int)) (d : decode cc pc = .ok (.if_icmp .eq off, 3)) (h1 : a = b → V K nL ws k n tgt lv st) (h2 : ¬ a = b → V K nL ws k n (pc + 3) lv st) : V K nL ws k n pc lv (vi b :: vi a :: st) := by
  obtain ⟨p, l, e, R, s, m, args, below, meth, c, D, A, Q⟩ := K
  obtain ⟨hx, hb, hml, hown, hts, hK, hA, hR, hnw⟩ := C
  intro H locs ls hP hD hS hl
  have e0 : zi a = zi b ↔ a = b := zi_eq ha hb0
  exact lv_icmp_eq hx hb d ht (fun q => h1 (e0.mp q) H locs ls hP hD hS hl) (fun q => h2 (fun q2 => q (e0.mpr q2)) H locs ls hP hD hS hl)
theorem qv_icne (C : Cx K cI cJ cc nL own rm) {a b off : Int} {tgt : Nat} (ha : ri a) (hb0 : ri b) (ht : (pc : Int) + off = (tgt : Int)) (d : decode cc pc = .ok (.if_icmp .ne off, 3)) (h1 : a ≠ b → V K nL ws k n tgt lv st) (h2 : a = b → V K nL ws k n (pc + 3) lv st) : V K nL ws k n pc lv (vi b :: vi a :: st) := by
  obtain ⟨p, l, e, R, s, m, args, below, meth, c, D, A, Q⟩ := K
  obtain ⟨hx, hb, hml, hown, hts, hK, hA, hR, hnw⟩ := C
  intro H locs ls hP hD hS hl
  have e0 : zi a = zi b ↔ a = b := zi_eq ha hb0
  exact lv_icmp_ne hx hb d ht (fun q => h1 (fun q2 => q (e0.mpr q2)) H locs ls hP hD hS hl) (fun q => h2 (e0.mp q) H locs ls hP hD hS hl)
theorem qv_iclt (C : Cx K cI cJ cc nL own rm) {a b off : Int} {tgt : Nat} (ha : ri a) (hb0 : ri b) (ht : (pc : Int) + off = (tgt : Int)) (d : decode cc pc = .ok (.if_icmp .lt off, 3)) (h1 : a < b → V K nL ws k n tgt lv st) (h2 : ¬ a < b → V K nL ws k n (pc + 3) lv st) : V K nL ws k n pc lv (vi b :: vi a :: st) := by
  obtain ⟨p, l, e, R, s, m, args, below, meth, c, D, A, Q⟩ := K
  obtain ⟨hx, hb, hml, hown, hts, hK, hA, hR, hnw⟩ := C
  intro H locs ls hP hD hS hl
  have e0 : zi a < zi b ↔ a < b := zi_lt ha hb0
  exact lv_icmp_lt hx hb d ht (fun q => h1 (e0.mp q) H locs ls hP hD hS hl) (fun q => h2 (fun q2 => q (e0.mpr q2)) H locs ls hP hD hS hl)
theorem qv_icge (C : Cx K cI cJ cc nL own rm) {a b off : Int} {tgt : Nat} (ha : ri a) (hb0 : ri b) (ht : (pc : Int) + off = (tgt : Int)) (d : decode cc pc = .ok (.if_icmp .ge off, 3)) (h1 : b ≤ a → V K nL ws k n tgt lv st) (h2 : ¬ b ≤ a → V K nL ws k n (pc + 3) lv st) : V K nL ws k n pc lv (vi b :: vi a :: st) := by
  obtain ⟨p, l, e, R, s, m, args, below, meth, c, D, A, Q⟩ := K
  obtain ⟨hx, hb, hml, hown, hts, hK, hA, hR, hnw⟩ := C
  intro H locs ls hP hD hS hl
  have e0 : zi b ≤ zi a ↔ b ≤ a := zi_le hb0 ha
  exact lv_icmp_ge hx hb d ht (fun q => h1 (e0.mp q) H locs ls hP hD hS hl) (fun q => h2 (fun q2 => q (e0.mpr q2)) H locs ls hP hD hS hl)
theorem qv_icgt (C : Cx K cI cJ cc nL own rm) {a b off : Int} {tgt : Nat} (ha : ri a) (hb0 : ri b) (ht : (pc : Int) + off = (tgt : Int)) (d : decode cc pc = .ok (.if_icmp .gt off, 3)) (h1 : b < a → V K nL ws k n tgt lv st) (h2 : ¬ b < a → V K nL ws k n (pc + 3) lv st) : V K nL ws k n pc lv (vi b :: vi a :: st) := by
  obtain ⟨p, l, e, R, s, m, args, below, meth, c, D, A, Q⟩ := K
  obtain ⟨hx, hb, hml, hown, hts, hK, hA, hR, hnw⟩ := C
  intro H locs ls hP hD hS hl
  have e0 : zi b < zi a ↔ b < a := zi_lt hb0 ha
  exact lv_icmp_gt hx hb d ht (fun q => h1 (e0.mp q) H locs ls hP hD hS hl) (fun q => h2 (fun q2 => q (e0.mpr q2)) H locs ls hP hD hS hl)
theorem qv_icle (C : Cx K cI cJ cc nL own rm) {a b off : Int} {tgt : Nat} (ha : ri a) (hb0 : ri b) (ht : (pc : Int) + off = (tgt : Int)) (d : decode cc pc = .ok (.if_icmp .le off, 3)) (h1 : a ≤ b → V K nL ws k n tgt lv st) (h2 : ¬ a ≤ b → V K nL ws k n (pc + 3) lv st) : V K nL ws k n pc lv (vi b :: vi a :: st) := by
  obtain ⟨p, l, e, R, s, m, args, below, meth, c, D, A, Q⟩ := K
  obtain ⟨hx, hb, hml, hown, hts, hK, hA, hR, hnw⟩ := C
  intro H locs ls hP hD hS hl
  have e0 : zi a ≤ zi b ↔ a ≤ b := zi_le ha hb0
  exact lv_icmp_le hx hb d ht (fun q => h1 (e0.mp q) H locs ls hP hD hS hl) (fun q => h2 (fun q2 => q (e0.mpr q2)) H locs ls hP hD hS hl)
theorem qv_goto (C : Cx K cI cJ cc nL own rm) {off : Int} {tgt : Nat} (ht : (pc : Int) + off = (tgt : Int)) (d : decode cc pc = .ok (.goto off, 3)) (h : V K nL ws k n tgt lv st) : V K nL ws k n pc lv st := by
  obtain ⟨p, l, e, R, s, m, args, below, meth, c, D, A, Q⟩ := K
  obtain ⟨hx, hb, hml, hown, hts, hK, hA, hR, hnw⟩ := C
  intro H locs ls hP hD hS hl
  exact lv_goto hx hb d ht (h H locs ls hP hD hS hl)
theorem qv_lceq (C : Cx K cI cJ cc nL own rm) {a b off : Int} {tgt : Nat} (ha : rj a) (hb0 : rj b) (d0 : decode cc pc = .ok (.lcmp, 1)) (ht : ((pc + 1 : Nat) : Int) + off = (tgt : Int)) (d : decode cc (pc + 1) = .ok (.ifCond .eq off, 3)) (h1 : a = b → V K nL ws k n tgt lv st) (h2 : ¬ a = b → V K nL ws k n (pc + 1 + 3) lv st) : V K nL ws k n pc lv (vj b :: vj a :: st) := by
  refine qv_lcmp C ha hb0 d0 ?_
  by_cases g1 : b < a
  · rw [if_pos g1]
    exact qv_ifeq C (by omega) ht d (fun q => h1 (by omega)) (fun q => h2 (by omega))
  · rw [if_neg g1]
    by_cases g2 : a = b
    · rw [if_pos g2]
      exact qv_ifeq C (by omega) ht d (fun q => h1 (by omega)) (fun q => h2 (by omega))
    · rw [if_neg g2]
      exact qv_ifeq C (by omega) ht d (fun q => h1 (by omega)) (fun q => h2 (by omega))
theorem qv_lcne (C : Cx K cI cJ cc nL own rm) {a b off : Int} {tgt : Nat} (ha : rj a) (hb0 : rj b) (d0 : decode cc pc = .ok (.lcmp, 1)) (ht : ((pc + 1 : Nat) : Int) + off = (tgt : Int)) (d : decode cc (pc + 1) = .ok (.ifCond .ne off, 3)) (h1 : a ≠ b → V K nL ws k n tgt lv st) (h2 : a = b → V K nL ws k n (pc + 1 + 3) lv st) : V K nL ws k n pc lv (vj b :: vj a :: st) := by
  refine qv_lcmp C ha hb0 d0 ?_
  by_cases g1 : b < a
  · rw [if_pos g1]
    exact qv_ifne C (by omega) ht d (fun q => h1 (by omega)) (fun q => h2 (by omega))
  · rw [if_neg g1]
    by_cases g2 : a = b
    · rw [if_pos g2]
      exact qv_ifne C (by omega) ht d (fun q => h1 (by omega)) (fun q => h2 (by omega))
    · rw [if_neg g2]
      exact qv_ifne C (by omega) ht d (fun q => h1 (by omega)) (fun q => h2 (by omega))
theorem qv_lclt (C : Cx K cI cJ cc nL own rm) {a b off : Int} {tgt : Nat} (ha : rj a) (hb0 : rj b) (d0 : decode cc pc = .ok (.lcmp, 1)) (ht : ((pc + 1 : Nat) : Int) + off = (tgt : Int)) (d : decode cc (pc + 1) = .ok (.ifCond .lt off, 3)) (h1 : a < b → V K nL ws k n tgt lv st) (h2 : ¬ a < b → V K nL ws k n (pc + 1 + 3) lv st) : V K nL ws k n pc lv (vj b :: vj a :: st) := by
  refine qv_lcmp C ha hb0 d0 ?_
  by_cases g1 : b < a
  · rw [if_pos g1]
    exact qv_iflt C (by omega) ht d (fun q => h1 (by omega)) (fun q => h2 (by omega))
  · rw [if_neg g1]
    by_cases g2 : a = b
    · rw [if_pos g2]
      exact qv_iflt C (by omega) ht d (fun q => h1 (by omega)) (fun q => h2 (by omega))
    · rw [if_neg g2]
      exact qv_iflt C (by omega) ht d (fun q => h1 (by omega)) (fun q => h2 (by omega))
theorem qv_lcge (C : Cx K cI cJ cc nL own rm) {a b off : Int} {tgt : Nat} (ha : rj a) (hb0 : rj b) (d0 : decode cc pc = .ok (.lcmp, 1)) (ht : ((pc + 1 : Nat) : Int) + off = (tgt : Int)) (d : decode cc (pc + 1) = .ok (.ifCond .ge off, 3)) (h1 : b ≤ a → V K nL ws k n tgt lv st) (h2 : ¬ b ≤ a → V K nL ws k n (pc + 1 + 3) lv st) : V K nL ws k n pc lv (vj b :: vj a :: st) := by
  refine qv_lcmp C ha hb0 d0 ?_
  by_cases g1 : b < a
  · rw [if_pos g1]
    exact qv_ifge C (by omega) ht d (fun q => h1 (by omega)) (fun q => h2 (by omega))
  · rw [if_neg g1]
    by_cases g2 : a = b
    · rw [if_pos g2]
      exact qv_ifge C (by omega) ht d (fun q => h1 (by omega)) (fun q => h2 (by omega))
    · rw [if_neg g2]
      exact qv_ifge C (by omega) ht d (fun q => h1 (by omega)) (fun q => h2 (by omega))
theorem qv_lcgt (C : Cx K cI cJ cc nL own rm) {a b off : Int} {tgt : Nat} (ha : rj a) (hb0 : rj b) (d0 : decode cc pc = .ok (.lcmp, 1)) (ht : ((pc + 1 : Nat) : Int) + off = (tgt : Int)) (d : decode cc (pc + 1) = .ok (.ifCond .gt off, 3)) (h1 : b < a → V K nL ws k n tgt lv st) (h2 : ¬ b < a → V K nL ws k n (pc + 1 + 3) lv st) : V K nL ws k n pc lv (vj b :: vj a :: st) := by
  refine qv_lcmp C ha hb0 d0 ?_
  by_cases g1 : b < a
  · rw [if_pos g1]
    exact qv_ifgt C (by omega) ht d (fun q => h1 (by omega)) (fun q => h2 (by omega))
  · rw [if_neg g1]
    by_cases g2 : a = b
    · rw [if_pos g2]
      exact qv_ifgt C (by omega) ht d (fun q => h1 (by omega)) (fun q => h2 (by omega))
    · rw [if_neg g2]
      exact qv_ifgt C (by omega) ht d (fun q => h1 (by omega)) (fun q => h2 (by omega))
theorem qv_lcle (C : Cx K cI cJ cc nL own rm) {a b off : Int} {tgt : Nat} (ha : rj a) (hb0 : rj b) (d0 : decode cc pc = .ok (.lcmp, 1)) (ht : ((pc + 1 : Nat) : Int) + off = (tgt : Int)) (d : decode cc (pc + 1) = .ok (.ifCond .le off, 3)) (h1 : a ≤ b → V K nL ws k n tgt lv st) (h2 : ¬ a ≤ b → V K nL ws k n (pc + 1 + 3) lv st) : V K nL ws k n pc lv (vj b :: vj a :: st) := by
  refine qv_lcmp C ha hb0 d0 ?_
  by_cases g1 : b < a
  · rw [if_pos g1]
    exact qv_ifle C (by omega) ht d (fun q => h1 (by omega)) (fun q => h2 (by omega))
  · rw [if_neg g1]
    by_cases g2 : a = b
    · rw [if_pos g2]
      exact qv_ifle C (by omega) ht d (fun q => h1 (by omega)) (fun q => h2 (by omega))
    · rw [if_neg g2]
      exact qv_ifle C (by omega) ht d (fun q => h1 (by omega)) (fun q => h2 (by omega))
theorem qv_iald (C : Cx K cI cJ cc nL own rm) {a N : Nat} {f : Nat → Nat} {z : Int} (q i : Nat) (hw : ws[q]? = some (ai cI a N f)) (hi : z = (i : Int)) (hin : i < N) (hN : N ≤ 2147483647) (d : decode cc pc = .ok (.iaload, 1)) (h : V K nL ws k n (pc + 1) lv (vi (f i : Nat) :: st)) : V K nL ws k n pc lv (vi z :: .ref a :: st) := by
  obtain ⟨p, l, e, R, s, m, args, below, meth, c, D, A, Q⟩ := K
  obtain ⟨hx, hb, hml, hown, hts, hK, hA, hR, hnw⟩ := C
  intro H locs ls hP hD hS hl
  subst hi
  refine va_iald hx hb hK hP q 0 hw rfl (zi_in hin hN) d ?_
  rw [zi_nat (by omega)]
  exact h H locs ls hP hD hS hl
theorem qv_lald (C : Cx K cI cJ cc nL own rm) {a N : Nat} {f : Nat → Nat} {z : Int} (q i : Nat) (hw : ws[q]? = some (aj cJ a N f)) (hi : z = (i : Int)) (hin : i < N) (hN : N ≤ 2147483647) (d : decode cc pc = .ok (.laload, 1)) (h : V K nL ws k n (pc + 1) lv (vj (f i : Nat) :: st)) : V K nL ws k n pc lv (vi z :: .ref a :: st) := by
  obtain ⟨p, l, e, R, s, m, args, below, meth, c, D, A, Q⟩ := K
  obtain ⟨hx, hb, hml, hown, hts, hK, hA, hR, hnw⟩ := C
  intro H locs ls hP hD hS hl
  subst hi
  refine va_lald hx hb hK hP q 1 hw rfl (zi_in hin hN) d ?_
  rw [zi_nat (by omega)]
  exact h H locs ls hP hD hS hl
theorem qv_iast (C : Cx K cI cJ cc nL own rm) {a N : Nat} {f : Nat → Nat} {y z : Int} {ws' : va_W} (q i x : Nat) (hw : ws[q]? = some (ai cI a N f)) (hi : z = (i : Int)) (hin : i < N) (hN : N ≤ 2147483647) (hy : y = (x : Int)) (hw2 : ws.set q (ai cI a N (un f i x)) = ws') (d : decode cc pc = .ok (.iastore, 1)) (h : V K nL ws' k n (pc + 1) lv st) : V K nL ws k n pc lv (vi y :: vi z :: .ref a :: st) := by
  obtain ⟨p, l, e, R, s, m, args, below, meth, c, D, A, Q⟩ := K
  obtain ⟨hx, hb, hml, hown, hts, hK, hA, hR, hnw⟩ := C
  intro H locs ls hP hD hS hl
  subst hi hy hw2
  refine va_iast hx hb hK hP hD hS q 0 hw rfl (zi_in hin hN) d (fun H1 locs1 hP1 hD1 hS1 => ?_)
  rw [zi_nat (by omega), un_i] at hP1 hD1
  exact h H1 locs1 ls hP1 hD1 hS1 hl
theorem qv_last (C : Cx K cI cJ cc nL own rm) {a N : Nat} {f : Nat → Nat} {y z : Int} {ws' : va_W} (q i x : Nat) (hw : ws[q]? = some (aj cJ a N f)) (hi : z = (i : Int)) (hin : i < N) (hN : N ≤ 2147483647) (hy : y = (x : Int)) (hw2 : ws.set q (aj cJ a N (un f i x)) = ws') (d : decode cc pc = .ok (.lastore, 1)) (h : V K nL ws' k n (pc + 1) lv st) : V K nL ws k n pc lv (vj y :: vi z :: .ref a :: st) := by
  obtain ⟨p, l, e, R, s, m, args, below, meth, c, D, A, Q⟩ := K
  obtain ⟨hx, hb, hml, hown, hts, hK, hA, hR, hnw⟩ := C
  intro H locs ls hP hD hS hl
  subst hi hy hw2
  refine va_last hx hb hK hP hD hS q 1 hw rfl (zi_in hin hN) d (fun H1 locs1 hP1 hD1 hS1 => ?_)
  rw [zi_nat (by omega), un_j] at hP1 hD1
  exact h H1 locs1 ls hP1 hD1 hS1 hl
theorem qv_alen (C : Cx K cI cJ cc nL own rm) {a N : Nat} {f : Nat → Nat} (q : Nat) (hw : ws[q]? = some (ai cI a N f)) (d : decode cc pc = .ok (.arraylength, 1)) (h : V K nL ws k n (pc + 1) lv (vi (N : Nat) :: st)) : V K nL ws k n pc lv (.ref a :: st) := by
  obtain ⟨p, l, e, R, s, m, args, below, meth, c, D, A, Q⟩ := K
  obtain ⟨hx, hb, hml, hown, hts, hK, hA, hR, hnw⟩ := C
  intro H locs ls hP hD hS hl
  exact va_alen hx hb hK hP q 0 hw rfl (zi_ofNat N) d (h H locs ls hP hD hS hl)
theorem qv_ti {K : Kx} {nL : Nat} {ws : va_W} {k n pc : Nat} {lv : List (Nat × Value)} {st : List Value} {z r : Int} (e : z = r) (h : V K nL ws k n pc lv (vi r :: st)) : V K nL ws k n pc lv (vi z :: st) := e ▸ h
theorem qv_tj {K : Kx} {nL : Nat} {ws : va_W} {k n pc : Nat} {lv : List (Nat × Value)} {st : List Value} {z r : Int} (e : z = r) (h : V K nL ws k n pc lv (vj r :: st)) : V K nL ws k n pc lv (vj z :: st) := e ▸ h
theorem qv_cgi {a N : Nat} {f g : Nat → Nat} {ws' : va_W} (q : Nat) (hw : ws[q]? = some (ai cI a N f)) (hfg : ∀ i, i < N → f i = g i) (hw2 : ws.set q (ai cI a N g) = ws') (h : V K nL ws' k n pc lv st) : V K nL ws k n pc lv st := by
  obtain ⟨p, l, e, R, s, m, args, below, meth, c, D, A, Q⟩ := K
  subst hw2
  intro H locs ls hP hD hS hl
  have h0 : H[a]? = some (arrV cI N (fun j => .int (zi (f j : Nat)))) := hP q _ hw
  have e : arrV cI N (fun j => Value.int (zi (f j : Nat))) = arrV cI N (fun j => .int (zi (g j : Nat))) := by
    unfold arrV
    have e1 : (fun j : Fin N => Value.int (zi (f j.val : Nat))) = fun j : Fin N => Value.int (zi (g j.val : Nat)) := funext fun j => by rw [hfg j.val j.isLt]
    rw [e1]
  rw [e] at h0
  exact h H locs ls (hP.set hD hw (show va_at D clz (ai cI a N g) H from h0) (fun _ _ => rfl)) (hD.set hw) hS hl
theorem qv_cgj {a N : Nat} {f g : Nat → Nat} {ws' : va_W} (q : Nat) (hw : ws[q]? = some (aj cJ a N f)) (hfg : ∀ i, i < N → f i = g i) (hw2 : ws.set q (aj cJ a N g) = ws') (h : V K nL ws' k n pc lv st) : V K nL ws k n pc lv st := by
  obtain ⟨p, l, e, R, s, m, args, below, meth, c, D, A, Q⟩ := K
  subst hw2
  intro H locs ls hP hD hS hl
  have h0 : H[a]? = some (arrV cJ N (fun j => .long (zj (f j : Nat)))) := hP q _ hw
  have e : arrV cJ N (fun j => Value.long (zj (f j : Nat))) = arrV cJ N (fun j => .long (zj (g j : Nat))) := by
    unfold arrV
    have e1 : (fun j : Fin N => Value.long (zj (f j.val : Nat))) = fun j : Fin N => Value.long (zj (g j.val : Nat)) := funext fun j => by rw [hfg j.val j.isLt]
    rw [e1]
  rw [e] at h0
  exact h H locs ls (hP.set hD hw (show va_at D clz (aj cJ a N g) H from h0) (fun _ _ => rfl)) (hD.set hw) hS hl
end Layer
end
section
/-! fields, contracts, calls, ends -/
theorem isN_cases {w : Cond} (h : isN w = true) : (∃ a i b x d y, w = .fieldLinkNest a i b x d y) ∨ ∃ a i x y, w = .methodLinkNest a i x y := by
  cases w <;> first | exact Or.inl ⟨_, _, _, _, _, _, rfl⟩ | exact Or.inr ⟨_, _, _, _, rfl⟩ | cases h
theorem nw_warm {s U : State} (hW : s.WarmedH U.vm) (h : ∀ w ∈ nl, va_Nw w s) : ∀ w ∈ nl, va_Nw w U := by
  intro w hw
  rcases isN_cases (List.mem_filter.mp hw).2 with ⟨a, i, b, x, d, y, rfl⟩ | ⟨a, i, x, y, rfl⟩
  · exact va_Nw.warmF hW (h _ hw)
  · exact va_Nw.warmM hW (h _ hw)
theorem nw_same {s U : State} (hv : s.vm = U.vm) (h : ∀ w ∈ nl, va_Nw w s) : ∀ w ∈ nl, va_Nw w U := by
  intro w hw
  rcases isN_cases (List.mem_filter.mp hw).2 with ⟨a, i, b, x, d, y, rfl⟩ | ⟨a, i, x, y, rfl⟩
  · exact va_Nw.same rfl hv (h _ hw)
  · exact va_Nw.same rfl hv (h _ hw)
theorem al_good {w : Cond} (h : w ∈ al) : (w.onTables && w.keeps) = true ∨ ∃ ty, w = .arrayClass ty := by
  have h1 : goodWord w = true := (List.mem_filter.mp h).2
  cases w <;> first | exact Or.inr ⟨_, rfl⟩ | exact Or.inl h1
theorem al_in {ws : List Cond} (h : ∀ w ∈ ws, w ∈ al) : GoodIn al ws := fun w hw => ⟨h w hw, al_good (h w hw)⟩
abbrev Xt : (Nat → Prop) → State → Prop := fun _ _ => True
def Fl (own : String) (ix ci j : Nat) : Prop := ∃ (C : String) (T : u_T) (N : Nat), clz[ci]? = some (C, T, N) ∧ j < N ∧ (T j).1 = C ∧ (∀ w ∈ u_ws C T N, w ∈ al) ∧ (Cond.fieldLink own ix C (T j).2.1 (T j).2.2.1 ∈ al ∨ ∃ host, Cond.fieldLinkNest own ix C (T j).2.1 (T j).2.2.1 host ∈ nl)
def Fs (ci j : Nat) (ty : FieldType) (fin : Bool) : Prop := ∃ (C : String) (T : u_T) (N : Nat) (ty0 : Nat → FieldType), clz[ci]? = some (C, T, N) ∧ (∀ i, i < N → parseFieldDescriptor (T i).2.2.1 = some (ty0 i)) ∧ (∀ a, a < N → ∀ b, b < N → a ≠ b → (T a).2.1 ≠ (T b).2.1) ∧ (T j).2.2.2 = fin ∧ parseFieldDescriptor (T j).2.2.1 = some ty
section Fields
variable {K : Kx} {cI cJ : ClassId} {cc : ByteArray} {nL : Nat} {own : String} {rm : Room} {ws : va_W} {k n pc : Nat} {lv : List (Nat × Value)} {st : List Value}
theorem qv_get (C : Cx K cI cJ cc nL own rm) {ix ci j a : Nat} {fs : List Value} {v : Value} (hf : Fl own ix ci j) (q : Nat) (hw : ws[q]? = some (oc a ci fs)) (hv : fs[j]? = some v) (d : decode cc pc = .ok (.getfield ix, 3)) (h : V K nL ws k n (pc + 3) lv (v :: st)) : V K nL ws k n pc lv (.ref a :: st) := by
  obtain ⟨p, l, e, R, s, m, args, below, meth, c, D, A, Q⟩ := K
  obtain ⟨hx, hb, hml, hown, hts, hK, hA, hR, hnw⟩ := C
  obtain ⟨C, T, N, hc, hj, ho, hu, hlk⟩ := hf
  intro H locs ls hP hD hS hl
  have hs : ∀ x, s.fieldFound? (T j).1 (T j).2.1 (T j).2.2.1 = some x → s.fieldFound? C (T j).2.1 (T j).2.2.1 = some x := by rw [ho]; exact fun _ h => h
  rcases hlk with hlk | ⟨host, hlk⟩
  · exact va_get hx hb hts hu hown hK hP q hw hc j hj (hts _ hlk) hs hv d (h H locs ls hP hD hS hl)
  · exact va_getN hx hb hts hu hown hK hP q hw hc j hj (va_Nw.use rfl (hnw _ hlk)) hs hv d (h H locs ls hP hD hS hl)
theorem qv_put (C : Cx K cI cJ cc nL own rm) {ix ci j a : Nat} {fs : List Value} {v : Value} {ty : FieldType} {ws' : va_W} (hf : Fl own ix ci j) (hs0 : Fs ci j ty false) (q : Nat) (hw : ws[q]? = some (oc a ci fs)) (hn : narrow ty v = v) (hfit : fits ty v = true) (hl0 : j < fs.length) (hw2 : ws.set q (oc a ci (fs.set j v)) = ws') (d : decode cc pc = .ok (.putfield ix, 3)) (h : V K nL ws' k n (pc + 3) lv st) : V K nL ws k n pc lv (v :: .ref a :: st) := by
  obtain ⟨p, l, e, R, s, m, args, below, meth, c, D, A, Q⟩ := K
  obtain ⟨hx, hb, hml, hown, hts, hK, hA, hR, hnw⟩ := C
  obtain ⟨C, T, N, hc, hj, ho, hu, hlk⟩ := hf
  obtain ⟨C', T', N', ty0, hc', hty, hnm, hfin, hpd⟩ := hs0
  rw [hc] at hc'
  cases hc'
  subst hw2
  intro H locs ls hP hD hS hl
  have hs : ∀ x, s.fieldFound? (T j).1 (T j).2.1 (T j).2.2.1 = some x → s.fieldFound? C (T j).2.1 (T j).2.2.1 = some x := by rw [ho]; exact fun _ h => h
  rcases hlk with hlk | ⟨host, hlk⟩
  · exact va_put hx hb hts hu ty0 hty hnm hown hK hP hD hS q hw hc j hj (hts _ hlk) hs hfin hpd hn hfit hl0 d (fun H1 locs1 hP1 hD1 hS1 => h H1 locs1 ls hP1 hD1 hS1 hl)
  · exact va_putN hx hb hts hu ty0 hty hnm hown hK hP hD hS q hw hc j hj (va_Nw.use rfl (hnw _ hlk)) hs hfin hpd hn hfit hl0 d (fun H1 locs1 hP1 hD1 hS1 => h H1 locs1 ls hP1 hD1 hS1 hl)
def Nm (K : Kx) (nm : String) : Prop := K.2.2.2.2.2.2.2.2.1.name = nm
theorem qv_putF (C : Cx K cI cJ cc nL own rm) (hN : Nm K "<init>") {ix ci j a : Nat} {fs : List Value} {v : Value} {ty : FieldType} {ws' : va_W} {F : u_T} {N : Nat} (hf : Cond.fieldLink own ix own (F j).2.1 (F j).2.2.1 ∈ al) (hu : ∀ w ∈ u_ws own F N, w ∈ al) (hc : clz[ci]? = some (own, F, N)) (hj : j < N) (ho : (F j).1 = own) (hs0 : Fs ci j ty true) (q : Nat) (hw : ws[q]? = some (oc a ci fs)) (hn : narrow ty v = v) (hfit : fits ty v = true) (hl0 : j < fs.length) (hw2 : ws.set q (oc a ci (fs.set j v)) = ws') (d : decode cc pc = .ok (.putfield ix, 3)) (h : V K nL ws' k n (pc + 3) lv st) : V K nL ws k n pc lv (v :: .ref a :: st) := by
  obtain ⟨p, l, e, R, s, m, args, below, meth, c, D, A, Q⟩ := K
  obtain ⟨hx, hb, hml, hown, hts, hK, hA, hR, hnw⟩ := C
  obtain ⟨C', T', N', ty0, hc', hty, hnm, hfin, hpd⟩ := hs0
  rw [hc] at hc'
  cases hc'
  subst hw2
  intro H locs ls hP hD hS hl
  have hs : ∀ x, s.fieldFound? (F j).1 (F j).2.1 (F j).2.2.1 = some x → s.fieldFound? own (F j).2.1 (F j).2.2.1 = some x := by rw [ho]; exact fun _ h => h
  exact va_putF hx hb hts hu ty0 hty hnm hown hK hP hD hS q hw hc j hj (hts _ hf) hs hfin hN ho hpd hn hfit hl0 d (fun H1 locs1 hP1 hD1 hS1 => h H1 locs1 ls hP1 hD1 hS1 hl)
end Fields
def Pre (D : va_G) (cI cJ : ClassId) (X : (Nat → Prop) → State → Prop) (sz : Nat) (wc : va_W) (U : State) : Prop := U.heap.size = sz ∧ va_P D clz wc U.heap ∧ va_K D clz [(cI, .int), (cJ, .long)] U ∧ va_D (fun _ => True) wc ∧ (∀ w ∈ nl, va_Nw w U) ∧ X (va_A wc sz) U
def Xk (K : Kx) (X : (Nat → Prop) → State → Prop) : Prop := X K.2.2.2.2.2.2.2.2.2.2.2.1 K.2.2.2.2.1
/-- what a caller owes of the callee's X -/
def Xok (K : Kx) (X : (Nat → Prop) → State → Prop) : Prop :=
  match K with
  | (_, _, _, _, s, _, _, _, _, _, _, A, _) => ∀ (H : Heap) (locs : List Loc) (B : Nat → Prop) (U : State), va_S A s.heap H locs → (∀ q, B q → A q) → U.heap = H → s.WarmedH U.vm → X B U
def Xbl (X : (Nat → Prop) → State → Prop) : Prop := ∀ (A : Nat → Prop) (U : State) (g : JFrame) (mk : MethodId) (a : Array Value), X A U → X A (U.calling g mk a)
theorem Xok_t (K : Kx) : Xok K Xt := by
  obtain ⟨p, l, e, R, s, m, args, below, meth, c, D, A, Q⟩ := K
  exact fun _ _ _ _ _ _ _ _ => trivial
theorem Xbl_t : Xbl Xt := fun _ _ _ _ _ _ => trivial
def Cl (own : String) (ix : Nat) (y : MethodName) (np : Nat) : Prop := (Cond.methodLink own ix y ∈ al ∨ ∃ host, Cond.methodLinkNest own ix y host ∈ nl) ∧ Cond.initialized y.cls ∈ al ∧ y.cls ≠ "java/lang/invoke/MethodHandle" ∧ y.cls ≠ "java/lang/invoke/VarHandle" ∧ (parseMethodDescriptor y.desc).map (fun d => d.parameters.length) = some np
def ClV (own : String) (ix : Nat) (y : MethodName) (np : Nat) : Prop := Cl own ix y np ∧ Cond.instanceMethod y ∈ al ∧ Cond.selects y.cls y y ∈ al
def ClS (own : String) (ix : Nat) (y : MethodName) (np : Nat) : Prop := Cl own ix y np ∧ Cond.static y ∈ al
def ClI (own : String) (ix : Nat) (y : MethodName) (np : Nat) : Prop := Cl own ix y np ∧ Cond.instanceMethod y ∈ al ∧ y.name = "<init>"
def MtI (cI cJ : ClassId) (y : MethodName) (cc : ByteArray) (nL : Nat) (ret : FieldType) (rm : Room) (X : (Nat → Prop) → State → Prop) (av : List Value) (wc : va_W) (post : Int → va_W → Prop) : Prop := ∀ (l : Launch) (D : va_G) (sz : Nat), Met l y (.code y cc nL (some ret) :: al) rm (va_Pc av (Pre D cI cJ X sz wc)) (va_Qi (fun r u => ∃ z : Int, r = zi z ∧ post z u) (fun u t => va_P D clz u t.heap ∧ va_D (va_A wc sz) u) (va_A wc sz)) rm.cells rm.slots (va_A wc sz)
def RtI (K : Kx) (ret : FieldType) (mc ms : Nat) (post : Int → va_W → Prop) : Prop :=
  match K with
  | (_, _, _, _, s, _, args, below, meth, _, D, A, Q) => meth.sig.returnType = (some ret) ∧ meth.locks = false ∧ Q = MQ below (va_Qi (fun r u => ∃ z : Int, r = zi z ∧ post z u) (fun u t => va_P D clz u t.heap ∧ va_D A u) A) args s mc ms A
theorem MtI_in {cI cJ : ClassId} {y : MethodName} {cc : ByteArray} {nL : Nat} {ret : FieldType} {rm : Room} {X : (Nat → Prop) → State → Prop} {av : List Value} {wc : va_W} {post : Int → va_W → Prop} (hy : plainName y.cls = true) (hlen : (lg_sl av).length ≤ nL)
    (h : ∀ K : Kx, Cx K cI cJ cc nL y.cls rm → RtI K ret rm.cells rm.slots post → Xk K X → Nm K y.name → V K nL wc 0 0 0 (lv_args 0 av) []) : MtI cI cJ y cc nL ret rm X av wc post := by
  intro l D sz
  refine Met.ofW (cc := cc) (maxL := nL) (ret := (some ret)) hy rfl ?_
  intro p e s m args below meth c s₁ B hml hv
  obtain ⟨rfl, hsz, hP, hK, hD0, hnw, hX⟩ := hv
  have hts := atoms_spec (ws := Cond.code y cc nL (some ret) :: al) B.pre
  have hown : s.vm.findClass y.cls = some m.cls := findClass_of_methodNamed B.named
  have hnm : meth.name = y.name := (name_of_methodNamed B.named B.method).1
  subst hsz
  have hD := hD0.self (sz := s.heap.size)
  have hl := lv_entry av (n := nL) hlen
  rw [lg_entry_eq]
  exact h (p, l, e, rm, s, m, av.toArray, below, meth, c, D, va_A wc s.heap.size, _) ⟨B.exec, B.bytes, hml, hown, fun w hw => hts w (List.mem_cons_of_mem _ hw), hK, fun q hq => Or.inr hq, rfl, hnw⟩ ⟨B.returns, B.notSynchronized, rfl⟩ hX hnm s.heap [] _ hP hD va_S.rf hl
def MtJ (cI cJ : ClassId) (y : MethodName) (cc : ByteArray) (nL : Nat) (rm : Room) (X : (Nat → Prop) → State → Prop) (av : List Value) (wc : va_W) (post : Int → va_W → Prop) : Prop := ∀ (l : Launch) (D : va_G) (sz : Nat), Met l y (.code y cc nL (some .long) :: al) rm (va_Pc av (Pre D cI cJ X sz wc)) (va_Ql (fun r u => ∃ z : Int, r = zj z ∧ post z u) (fun u t => va_P D clz u t.heap ∧ va_D (va_A wc sz) u) (va_A wc sz)) rm.cells rm.slots (va_A wc sz)
def RtJ (K : Kx) (mc ms : Nat) (post : Int → va_W → Prop) : Prop :=
  match K with
  | (_, _, _, _, s, _, args, below, meth, _, D, A, Q) => meth.sig.returnType = (some .long) ∧ meth.locks = false ∧ Q = MQ below (va_Ql (fun r u => ∃ z : Int, r = zj z ∧ post z u) (fun u t => va_P D clz u t.heap ∧ va_D A u) A) args s mc ms A
theorem MtJ_in {cI cJ : ClassId} {y : MethodName} {cc : ByteArray} {nL : Nat} {rm : Room} {X : (Nat → Prop) → State → Prop} {av : List Value} {wc : va_W} {post : Int → va_W → Prop} (hy : plainName y.cls = true) (hlen : (lg_sl av).length ≤ nL)
    (h : ∀ K : Kx, Cx K cI cJ cc nL y.cls rm → RtJ K rm.cells rm.slots post → Xk K X → Nm K y.name → V K nL wc 0 0 0 (lv_args 0 av) []) : MtJ cI cJ y cc nL rm X av wc post := by
  intro l D sz
  refine Met.ofW (cc := cc) (maxL := nL) (ret := (some .long)) hy rfl ?_
  intro p e s m args below meth c s₁ B hml hv
  obtain ⟨rfl, hsz, hP, hK, hD0, hnw, hX⟩ := hv
  have hts := atoms_spec (ws := Cond.code y cc nL (some .long) :: al) B.pre
  have hown : s.vm.findClass y.cls = some m.cls := findClass_of_methodNamed B.named
  have hnm : meth.name = y.name := (name_of_methodNamed B.named B.method).1
  subst hsz
  have hD := hD0.self (sz := s.heap.size)
  have hl := lv_entry av (n := nL) hlen
  rw [lg_entry_eq]
  exact h (p, l, e, rm, s, m, av.toArray, below, meth, c, D, va_A wc s.heap.size, _) ⟨B.exec, B.bytes, hml, hown, fun w hw => hts w (List.mem_cons_of_mem _ hw), hK, fun q hq => Or.inr hq, rfl, hnw⟩ ⟨B.returns, B.notSynchronized, rfl⟩ hX hnm s.heap [] _ hP hD va_S.rf hl
def MtV (cI cJ : ClassId) (y : MethodName) (cc : ByteArray) (nL : Nat) (rm : Room) (X : (Nat → Prop) → State → Prop) (av : List Value) (wc : va_W) (post : va_W → Prop) : Prop := ∀ (l : Launch) (D : va_G) (sz : Nat), Met l y (.code y cc nL none :: al) rm (va_Pc av (Pre D cI cJ X sz wc)) (va_Qv (fun u => post u) (fun u t => va_P D clz u t.heap ∧ va_D (va_A wc sz) u) (va_A wc sz)) rm.cells rm.slots (va_A wc sz)
def RtV (K : Kx) (mc ms : Nat) (post : va_W → Prop) : Prop :=
  match K with
  | (_, _, _, _, s, _, args, below, meth, _, D, A, Q) => meth.sig.returnType = none ∧ meth.locks = false ∧ Q = MQ below (va_Qv (fun u => post u) (fun u t => va_P D clz u t.heap ∧ va_D A u) A) args s mc ms A
theorem MtV_in {cI cJ : ClassId} {y : MethodName} {cc : ByteArray} {nL : Nat} {rm : Room} {X : (Nat → Prop) → State → Prop} {av : List Value} {wc : va_W} {post : va_W → Prop} (hy : plainName y.cls = true) (hlen : (lg_sl av).length ≤ nL)
    (h : ∀ K : Kx, Cx K cI cJ cc nL y.cls rm → RtV K rm.cells rm.slots post → Xk K X → Nm K y.name → V K nL wc 0 0 0 (lv_args 0 av) []) : MtV cI cJ y cc nL rm X av wc post := by
  intro l D sz
  refine Met.ofW (cc := cc) (maxL := nL) (ret := none) hy rfl ?_
  intro p e s m args below meth c s₁ B hml hv
  obtain ⟨rfl, hsz, hP, hK, hD0, hnw, hX⟩ := hv
  have hts := atoms_spec (ws := Cond.code y cc nL none :: al) B.pre
  have hown : s.vm.findClass y.cls = some m.cls := findClass_of_methodNamed B.named
  have hnm : meth.name = y.name := (name_of_methodNamed B.named B.method).1
  subst hsz
  have hD := hD0.self (sz := s.heap.size)
  have hl := lv_entry av (n := nL) hlen
  rw [lg_entry_eq]
  exact h (p, l, e, rm, s, m, av.toArray, below, meth, c, D, va_A wc s.heap.size, _) ⟨B.exec, B.bytes, hml, hown, fun w hw => hts w (List.mem_cons_of_mem _ hw), hK, fun q hq => Or.inr hq, rfl, hnw⟩ ⟨B.returns, B.notSynchronized, rfl⟩ hX hnm s.heap [] _ hP hD va_S.rf hl
theorem qv_iret {K : Kx} {cI cJ : ClassId} {cc : ByteArray} {nL : Nat} {own : String} {rm : Room} {ws : va_W} {k n pc : Nat} {lv : List (Nat × Value)} (C : Cx K cI cJ cc nL own rm) {mc ms : Nat} {post : Int → va_W → Prop} (hRt : RtI K .int mc ms post) {z : Int} (hp : post z ws) (d : decode cc pc = .ok (.ireturn, 1)) (hk : k ≤ mc) (hs : n ≤ ms) : V K nL ws k n pc lv [vi z] := by
  obtain ⟨p, l, e, R, s, m, args, below, meth, c, D, A, Q⟩ := K
  obtain ⟨hx, hb, hml, hown, hts, hK, hA, hR, hnw⟩ := C
  obtain ⟨hr, hlocks, rfl⟩ := hRt
  intro H locs ls hP hD hS hl
  refine W.widen hk hs ?_
  exact W.iret (v := zi z) hx hb hr (fun t ht hW => ⟨⟨zi z, ws, rfl, ⟨z, rfl, hp⟩, by rw [ht]; exact hP, hD⟩, hS.F ht⟩) hS.2.2 d
theorem qv_zret {K : Kx} {cI cJ : ClassId} {cc : ByteArray} {nL : Nat} {own : String} {rm : Room} {ws : va_W} {k n pc : Nat} {lv : List (Nat × Value)} (C : Cx K cI cJ cc nL own rm) {mc ms : Nat} {post : Int → va_W → Prop} (hRt : RtI K .boolean mc ms post) {b : Bool} (hp : post (b2 b) ws) (d : decode cc pc = .ok (.ireturn, 1)) (hk : k ≤ mc) (hs : n ≤ ms) : V K nL ws k n pc lv [vi (b2 b)] := by
  obtain ⟨p, l, e, R, s, m, args, below, meth, c, D, A, Q⟩ := K
  obtain ⟨hx, hb, hml, hown, hts, hK, hA, hR, hnw⟩ := C
  obtain ⟨hr, hlocks, rfl⟩ := hRt
  intro H locs ls hP hD hS hl
  refine W.widen hk hs ?_
  exact W.zret (v := zi (b2 b)) hx hb hr (by cases b <;> rfl) (fun t ht hW => ⟨⟨zi (b2 b), ws, rfl, ⟨b2 b, rfl, hp⟩, by rw [ht]; exact hP, hD⟩, hS.F ht⟩) hS.2.2 d
theorem qv_lret {K : Kx} {cI cJ : ClassId} {cc : ByteArray} {nL : Nat} {own : String} {rm : Room} {ws : va_W} {k n pc : Nat} {lv : List (Nat × Value)} (C : Cx K cI cJ cc nL own rm) {mc ms : Nat} {post : Int → va_W → Prop} (hRt : RtJ K mc ms post) {z : Int} (hp : post z ws) (d : decode cc pc = .ok (.lreturn, 1)) (hk : k ≤ mc) (hs : n ≤ ms) : V K nL ws k n pc lv [vj z] := by
  obtain ⟨p, l, e, R, s, m, args, below, meth, c, D, A, Q⟩ := K
  obtain ⟨hx, hb, hml, hown, hts, hK, hA, hR, hnw⟩ := C
  obtain ⟨hr, hlocks, rfl⟩ := hRt
  intro H locs ls hP hD hS hl
  refine W.widen hk hs ?_
  exact W.lret (v := zj z) hx hb hr (fun t ht hW => ⟨⟨zj z, ws, rfl, ⟨z, rfl, hp⟩, by rw [ht]; exact hP, hD⟩, hS.F ht⟩) hS.2.2 d
theorem qv_vret {K : Kx} {cI cJ : ClassId} {cc : ByteArray} {nL : Nat} {own : String} {rm : Room} {ws : va_W} {k n pc : Nat} {lv : List (Nat × Value)} (C : Cx K cI cJ cc nL own rm) {mc ms : Nat} {post : va_W → Prop} (hRt : RtV K mc ms post) (hp : post ws) (d : decode cc pc = .ok (.return_, 1)) (hk : k ≤ mc) (hs : n ≤ ms) : V K nL ws k n pc lv [] := by
  obtain ⟨p, l, e, R, s, m, args, below, meth, c, D, A, Q⟩ := K
  obtain ⟨hx, hb, hml, hown, hts, hK, hA, hR, hnw⟩ := C
  obtain ⟨hr, hlocks, rfl⟩ := hRt
  intro H locs ls hP hD hS hl
  refine W.widen hk hs ?_
  exact W.vret hx hb hr (fun t ht hW => ⟨⟨ws, rfl, hp, by rw [ht]; exact hP, hD⟩, hS.F ht⟩) hS.2.2 d
theorem cl_B {R : Room} {s : State} {args : Array Value} {own : String} {ix : Nat} {y : MethodName} {np : Nat} {bytes : ByteArray} {maxL : Nat} {ret : Option FieldType} {rm : Room} (hts : ∀ w ∈ al, w.before args s = true) (hl : Cond.methodLink own ix y ∈ al) (hi : Cond.initialized y.cls ∈ al) (h1 : y.cls ≠ "java/lang/invoke/MethodHandle") (h2 : y.cls ≠ "java/lang/invoke/VarHandle") (h3 : (parseMethodDescriptor y.desc).map (fun d => d.parameters.length) = some np) (cd : Cond.code y bytes maxL ret ∈ al) (hR : rm.frames + 1 ≤ R.frames ∧ 8 + (maxL + 11) + rm.locals ≤ R.locals) : CallB R s args own ix y bytes maxL ret (.code y bytes maxL ret :: al) rm rm.cells rm.slots np := by
  refine ⟨rfl, rfl, hR.1, hR.2, ?_, List.mem_cons_self, hts _ cd, hts _ hi, ⟨h1, h2⟩, ?_, hts _ hl⟩
  · intro w hw a' U hW
    have hw2 : w ∈ al := by
      rcases List.mem_cons.mp hw with rfl | hw
      · exact cd
      · exact hw
    exact word_at hW (al_good hw2) (hts w hw2)
  · intro sig hs
    rw [hs] at h3
    exact (Option.some.inj h3).symm
theorem cl_N {R : Room} {s : State} {args : Array Value} {own host : String} {ix : Nat} {y : MethodName} {np : Nat} {bytes : ByteArray} {maxL : Nat} {ret : Option FieldType} {rm : Room} (hts : ∀ w ∈ al, w.before args s = true) (hl : va_Nw (.methodLinkNest own ix y host) s) (hi : Cond.initialized y.cls ∈ al) (h1 : y.cls ≠ "java/lang/invoke/MethodHandle") (h2 : y.cls ≠ "java/lang/invoke/VarHandle") (h3 : (parseMethodDescriptor y.desc).map (fun d => d.parameters.length) = some np) (cd : Cond.code y bytes maxL ret ∈ al) (hR : rm.frames + 1 ≤ R.frames ∧ 8 + (maxL + 11) + rm.locals ≤ R.locals) : va_CN R s args own ix y host bytes maxL ret (.code y bytes maxL ret :: al) rm rm.cells rm.slots np :=
  va_cnB np hts (al_in (fun w hw => by
    rcases List.mem_cons.mp hw with rfl | hw
    · exact cd
    · exact hw)) rfl rfl rfl hl (hts _ hi) ⟨h1, h2, h3⟩ hR
theorem pre_in {s : State} {H : Heap} {D : va_G} {cI cJ : ClassId} {X : (Nat → Prop) → State → Prop} {wc : va_W} {A : Nat → Prop} (av : List Value) (hb : Xbl X) (hX : ∀ U : State, U.heap = H → s.WarmedH U.vm → X (va_A wc H.size) U) (hP : va_P D clz wc H) (hD : va_D A wc) (hK : va_K D clz [(cI, .int), (cJ, .long)] s) (hnw : ∀ w ∈ nl, va_Nw w s) : PreS s H (va_Pc av (Pre D cI cJ X H.size wc)) av := by
  refine ⟨fun a U g mk q => ?_, fun U hU hW => ⟨rfl, by rw [hU], by rw [hU]; exact hP, va_K.moved hW.alike hK, hD.weaken (fun _ _ _ _ => trivial), nw_warm hW hnw, hX U hU hW⟩⟩
  obtain ⟨q0, q1, qP, qK, qD, qn, qX⟩ := q
  exact ⟨q0, q1, qP, va_K.moved (u := U) (U := U.calling g mk a) (Vm.Alike.refl U.vm) qK, qD, nw_same (s := U) (U := U.calling g mk a) rfl qn, hb _ _ _ _ _ qX⟩
theorem qc_vI {K : Kx} {cI cJ : ClassId} {cc : ByteArray} {nL : Nat} {own : String} {rm : Room} {ws : va_W} {k n pc : Nat} {lv : List (Nat × Value)} {st : List Value} (C : Cx K cI cJ cc nL own rm) {ix np : Nat} {y : MethodName} {cc' : ByteArray} {nL' : Nat} {ret : FieldType} {rm' : Room} {X : (Nat → Prop) → State → Prop} {b ci : Nat} {fs : List Value} {q0 : vw_C} {As : List Value} {wc wr : va_W} {post : Int → va_W → Prop} {st0 : List Value} (hc : ClV own ix y np) (cd : Cond.code y cc' nL' (some ret) ∈ al) (hM : MtI cI cJ y cc' nL' ret rm' X (.ref b :: As) wc post) (hX : Xok K X) (hXb : Xbl X)
    (isC isR : List Nat) (hC : isC.map (fun i => ws[i]?) = wc.map some) (hR : isR.map (fun i => ws[i]?) = wr.map some) (hnd : va_nd isC = true) (hn : va_nd isR = true) (hdis : ∀ i ∈ isR, i ∉ isC) (j : Nat) (hj : wc[j]? = some (oc b ci fs)) (hcl : clz[ci]? = some q0) (hq0 : q0.1 = y.cls) (hst : st0 = As.reverse ++ .ref b :: st) (hlen : As.length = np) (hroom : (st.map fun v => v.category).sum ≤ 8) (hfr : rm'.frames + 1 ≤ rm.frames ∧ 8 + (nL' + 11) + rm'.locals ≤ rm.locals) (hce : k + rm'.cells ≤ rm.cells ∧ n + rm'.slots ≤ rm.slots) (d : decode cc pc = .ok (.invokevirtual ix, 3)) (h : ∀ (z : Int) (u : va_W), post z u → V K nL (wr ++ u) (k + rm'.cells) (n + rm'.slots) (pc + 3) lv (vi z :: st)) : V K nL ws k n pc lv st0 := by
  obtain ⟨p, l, e, R, s, m, args, below, meth, c, D, A, Q⟩ := K
  obtain ⟨hx, hb, hml, hown, hts, hK, hA, rfl, hnw⟩ := C
  subst hst
  intro H locs ls hP hD hS hl
  have hDc := hD.sub isC hnd hC
  have hPc := hP.sub (ws' := wc) isC (by
    have h1 : ∀ (is : List Nat) (ws' : va_W), is.map (fun i => ws[i]?) = ws'.map some → is.filterMap (fun i => ws[i]?) = ws' := by
      intro is
      induction is with
      | nil => intro ws' h; cases ws' with
        | nil => rfl
        | cons a t => cases h
      | cons i is ih => intro ws' h; cases ws' with
        | nil => cases h
        | cons a t =>
          rw [List.map_cons, List.map_cons] at h
          injection h with h1 h2
          rw [List.filterMap_cons, h1]
          show a :: List.filterMap _ is = a :: t
          rw [ih t h2]
    exact h1 isC wc hC)
  have hFc := va_free (wc := wc) hD hS hA isC hC
  have hXc : ∀ U : State, U.heap = H → s.WarmedH U.vm → X (va_A wc H.size) U := fun U hU hW => hX H locs _ U hS hFc hU hW
  have hp := pre_in (s := s) (H := H) (D := D) (cI := cI) (cJ := cJ) (.ref b :: As) hXb hXc hPc hDc hK hnw
  obtain ⟨⟨hlk, hi, h1, h2, h3⟩, hin, hsel⟩ := hc
  have hrc := va_recv (s := s) hK hPc hcl hj
  rw [hq0] at hrc
  rcases hlk with hlk | ⟨host, hlk⟩
  · exact va_calli (va_runV (Ts := al) (As := As) (rest := st) (C := y.cls) ⟨hx, hb, hml, hown, hts⟩ (hM l D H.size) ⟨cl_B hts hlk hi h1 h2 h3 cd hfr, hts _ hin, hts _ hsel⟩ ⟨hp.1, hrc, hp.2⟩ rfl hlen hl.1 rfl (lv_room hroom) d hce) hS (fun q _ h => hFc q h) hFc (fun r u t H1 locs1 ht hvm hq hB hz1 hk1 hS1 => by
    obtain ⟨z, rfl, hp⟩ := hq
    obtain ⟨hP1, hD1⟩ := hB
    rw [ht] at hP1
    obtain ⟨hP2, hD2⟩ := va_join hP hD isC isR hC hR hn hdis hk1 hFc hP1 hD1
    exact h z u hp H1 locs1 ls hP2 hD2 hS1 hl)
  · exact va_calli (va_runVN (Ts := al) (As := As) (rest := st) (C := y.cls) (host := host) ⟨hx, hb, hml, hown, hts⟩ (hM l D H.size) ⟨cl_N hts (hnw _ hlk) hi h1 h2 h3 cd hfr, hts _ hin, hts _ hsel⟩ ⟨hp.1, hrc, hp.2⟩ rfl hlen hl.1 rfl (lv_room hroom) d hce) hS (fun q _ h => hFc q h) hFc (fun r u t H1 locs1 ht hvm hq hB hz1 hk1 hS1 => by
    obtain ⟨z, rfl, hp⟩ := hq
    obtain ⟨hP1, hD1⟩ := hB
    rw [ht] at hP1
    obtain ⟨hP2, hD2⟩ := va_join hP hD isC isR hC hR hn hdis hk1 hFc hP1 hD1
    exact h z u hp H1 locs1 ls hP2 hD2 hS1 hl)
theorem qc_sI {K : Kx} {cI cJ : ClassId} {cc : ByteArray} {nL : Nat} {own : String} {rm : Room} {ws : va_W} {k n pc : Nat} {lv : List (Nat × Value)} {st : List Value} (C : Cx K cI cJ cc nL own rm) {ix np : Nat} {y : MethodName} {cc' : ByteArray} {nL' : Nat} {ret : FieldType} {rm' : Room} {X : (Nat → Prop) → State → Prop} {As : List Value} {wc wr : va_W} {post : Int → va_W → Prop} {st0 : List Value} (hc : ClS own ix y np) (cd : Cond.code y cc' nL' (some ret) ∈ al) (hM : MtI cI cJ y cc' nL' ret rm' X As wc post) (hX : Xok K X) (hXb : Xbl X)
    (isC isR : List Nat) (hC : isC.map (fun i => ws[i]?) = wc.map some) (hR : isR.map (fun i => ws[i]?) = wr.map some) (hnd : va_nd isC = true) (hn : va_nd isR = true) (hdis : ∀ i ∈ isR, i ∉ isC) (hst : st0 = As.reverse ++ st) (hlen : As.length = np) (hroom : (st.map fun v => v.category).sum ≤ 8) (hfr : rm'.frames + 1 ≤ rm.frames ∧ 8 + (nL' + 11) + rm'.locals ≤ rm.locals) (hce : k + rm'.cells ≤ rm.cells ∧ n + rm'.slots ≤ rm.slots) (d : decode cc pc = .ok (.invokestatic ix, 3)) (h : ∀ (z : Int) (u : va_W), post z u → V K nL (wr ++ u) (k + rm'.cells) (n + rm'.slots) (pc + 3) lv (vi z :: st)) : V K nL ws k n pc lv st0 := by
  obtain ⟨p, l, e, R, s, m, args, below, meth, c, D, A, Q⟩ := K
  obtain ⟨hx, hb, hml, hown, hts, hK, hA, rfl, hnw⟩ := C
  subst hst
  intro H locs ls hP hD hS hl
  have hDc := hD.sub isC hnd hC
  have hPc := hP.sub (ws' := wc) isC (by
    have h1 : ∀ (is : List Nat) (ws' : va_W), is.map (fun i => ws[i]?) = ws'.map some → is.filterMap (fun i => ws[i]?) = ws' := by
      intro is
      induction is with
      | nil => intro ws' h; cases ws' with
        | nil => rfl
        | cons a t => cases h
      | cons i is ih => intro ws' h; cases ws' with
        | nil => cases h
        | cons a t =>
          rw [List.map_cons, List.map_cons] at h
          injection h with h1 h2
          rw [List.filterMap_cons, h1]
          show a :: List.filterMap _ is = a :: t
          rw [ih t h2]
    exact h1 isC wc hC)
  have hFc := va_free (wc := wc) hD hS hA isC hC
  have hXc : ∀ U : State, U.heap = H → s.WarmedH U.vm → X (va_A wc H.size) U := fun U hU hW => hX H locs _ U hS hFc hU hW
  have hp := pre_in (s := s) (H := H) (D := D) (cI := cI) (cJ := cJ) As hXb hXc hPc hDc hK hnw
  obtain ⟨⟨hlk, hi, h1, h2, h3⟩, hsta⟩ := hc
  rcases hlk with hlk | ⟨host, hlk⟩
  · exact va_calli (va_runS (Ts := al) (As := As) (rest := st) ⟨hx, hb, hml, hown, hts⟩ (hM l D H.size) ⟨cl_B hts hlk hi h1 h2 h3 cd hfr, hts _ hsta⟩ hp rfl hlen hl.1 rfl (lv_room hroom) d hce) hS (fun q _ h => hFc q h) hFc (fun r u t H1 locs1 ht hvm hq hB hz1 hk1 hS1 => by
    obtain ⟨z, rfl, hp⟩ := hq
    obtain ⟨hP1, hD1⟩ := hB
    rw [ht] at hP1
    obtain ⟨hP2, hD2⟩ := va_join hP hD isC isR hC hR hn hdis hk1 hFc hP1 hD1
    exact h z u hp H1 locs1 ls hP2 hD2 hS1 hl)
  · exact va_calli (va_runSN (Ts := al) (As := As) (rest := st) (host := host) ⟨hx, hb, hml, hown, hts⟩ (hM l D H.size) ⟨cl_N hts (hnw _ hlk) hi h1 h2 h3 cd hfr, hts _ hsta, trivial⟩ hp rfl hlen hl.1 rfl (lv_room hroom) d hce) hS (fun q _ h => hFc q h) hFc (fun r u t H1 locs1 ht hvm hq hB hz1 hk1 hS1 => by
    obtain ⟨z, rfl, hp⟩ := hq
    obtain ⟨hP1, hD1⟩ := hB
    rw [ht] at hP1
    obtain ⟨hP2, hD2⟩ := va_join hP hD isC isR hC hR hn hdis hk1 hFc hP1 hD1
    exact h z u hp H1 locs1 ls hP2 hD2 hS1 hl)
theorem qc_vJ {K : Kx} {cI cJ : ClassId} {cc : ByteArray} {nL : Nat} {own : String} {rm : Room} {ws : va_W} {k n pc : Nat} {lv : List (Nat × Value)} {st : List Value} (C : Cx K cI cJ cc nL own rm) {ix np : Nat} {y : MethodName} {cc' : ByteArray} {nL' : Nat} {rm' : Room} {X : (Nat → Prop) → State → Prop} {b ci : Nat} {fs : List Value} {q0 : vw_C} {As : List Value} {wc wr : va_W} {post : Int → va_W → Prop} {st0 : List Value} (hc : ClV own ix y np) (cd : Cond.code y cc' nL' (some .long) ∈ al) (hM : MtJ cI cJ y cc' nL' rm' X (.ref b :: As) wc post) (hX : Xok K X) (hXb : Xbl X)
    (isC isR : List Nat) (hC : isC.map (fun i => ws[i]?) = wc.map some) (hR : isR.map (fun i => ws[i]?) = wr.map some) (hnd : va_nd isC = true) (hn : va_nd isR = true) (hdis : ∀ i ∈ isR, i ∉ isC) (j : Nat) (hj : wc[j]? = some (oc b ci fs)) (hcl : clz[ci]? = some q0) (hq0 : q0.1 = y.cls) (hst : st0 = As.reverse ++ .ref b :: st) (hlen : As.length = np) (hroom : (st.map fun v => v.category).sum ≤ 8) (hfr : rm'.frames + 1 ≤ rm.frames ∧ 8 + (nL' + 11) + rm'.locals ≤ rm.locals) (hce : k + rm'.cells ≤ rm.cells ∧ n + rm'.slots ≤ rm.slots) (d : decode cc pc = .ok (.invokevirtual ix, 3)) (h : ∀ (z : Int) (u : va_W), post z u → V K nL (wr ++ u) (k + rm'.cells) (n + rm'.slots) (pc + 3) lv (vj z :: st)) : V K nL ws k n pc lv st0 := by
  obtain ⟨p, l, e, R, s, m, args, below, meth, c, D, A, Q⟩ := K
  obtain ⟨hx, hb, hml, hown, hts, hK, hA, rfl, hnw⟩ := C
  subst hst
  intro H locs ls hP hD hS hl
  have hDc := hD.sub isC hnd hC
  have hPc := hP.sub (ws' := wc) isC (by
    have h1 : ∀ (is : List Nat) (ws' : va_W), is.map (fun i => ws[i]?) = ws'.map some → is.filterMap (fun i => ws[i]?) = ws' := by
      intro is
      induction is with
      | nil => intro ws' h; cases ws' with
        | nil => rfl
        | cons a t => cases h
      | cons i is ih => intro ws' h; cases ws' with
        | nil => cases h
        | cons a t =>
          rw [List.map_cons, List.map_cons] at h
          injection h with h1 h2
          rw [List.filterMap_cons, h1]
          show a :: List.filterMap _ is = a :: t
          rw [ih t h2]
    exact h1 isC wc hC)
  have hFc := va_free (wc := wc) hD hS hA isC hC
  have hXc : ∀ U : State, U.heap = H → s.WarmedH U.vm → X (va_A wc H.size) U := fun U hU hW => hX H locs _ U hS hFc hU hW
  have hp := pre_in (s := s) (H := H) (D := D) (cI := cI) (cJ := cJ) (.ref b :: As) hXb hXc hPc hDc hK hnw
  obtain ⟨⟨hlk, hi, h1, h2, h3⟩, hin, hsel⟩ := hc
  have hrc := va_recv (s := s) hK hPc hcl hj
  rw [hq0] at hrc
  rcases hlk with hlk | ⟨host, hlk⟩
  · exact va_calll (va_runV (Ts := al) (As := As) (rest := st) (C := y.cls) ⟨hx, hb, hml, hown, hts⟩ (hM l D H.size) ⟨cl_B hts hlk hi h1 h2 h3 cd hfr, hts _ hin, hts _ hsel⟩ ⟨hp.1, hrc, hp.2⟩ rfl hlen hl.1 rfl (lv_room hroom) d hce) hS (fun q _ h => hFc q h) hFc (fun r u t H1 locs1 ht hvm hq hB hz1 hk1 hS1 => by
    obtain ⟨z, rfl, hp⟩ := hq
    obtain ⟨hP1, hD1⟩ := hB
    rw [ht] at hP1
    obtain ⟨hP2, hD2⟩ := va_join hP hD isC isR hC hR hn hdis hk1 hFc hP1 hD1
    exact h z u hp H1 locs1 ls hP2 hD2 hS1 hl)
  · exact va_calll (va_runVN (Ts := al) (As := As) (rest := st) (C := y.cls) (host := host) ⟨hx, hb, hml, hown, hts⟩ (hM l D H.size) ⟨cl_N hts (hnw _ hlk) hi h1 h2 h3 cd hfr, hts _ hin, hts _ hsel⟩ ⟨hp.1, hrc, hp.2⟩ rfl hlen hl.1 rfl (lv_room hroom) d hce) hS (fun q _ h => hFc q h) hFc (fun r u t H1 locs1 ht hvm hq hB hz1 hk1 hS1 => by
    obtain ⟨z, rfl, hp⟩ := hq
    obtain ⟨hP1, hD1⟩ := hB
    rw [ht] at hP1
    obtain ⟨hP2, hD2⟩ := va_join hP hD isC isR hC hR hn hdis hk1 hFc hP1 hD1
    exact h z u hp H1 locs1 ls hP2 hD2 hS1 hl)
theorem qc_sJ {K : Kx} {cI cJ : ClassId} {cc : ByteArray} {nL : Nat} {own : String} {rm : Room} {ws : va_W} {k n pc : Nat} {lv : List (Nat × Value)} {st : List Value} (C : Cx K cI cJ cc nL own rm) {ix np : Nat} {y : MethodName} {cc' : ByteArray} {nL' : Nat} {rm' : Room} {X : (Nat → Prop) → State → Prop} {As : List Value} {wc wr : va_W} {post : Int → va_W → Prop} {st0 : List Value} (hc : ClS own ix y np) (cd : Cond.code y cc' nL' (some .long) ∈ al) (hM : MtJ cI cJ y cc' nL' rm' X As wc post) (hX : Xok K X) (hXb : Xbl X)
    (isC isR : List Nat) (hC : isC.map (fun i => ws[i]?) = wc.map some) (hR : isR.map (fun i => ws[i]?) = wr.map some) (hnd : va_nd isC = true) (hn : va_nd isR = true) (hdis : ∀ i ∈ isR, i ∉ isC) (hst : st0 = As.reverse ++ st) (hlen : As.length = np) (hroom : (st.map fun v => v.category).sum ≤ 8) (hfr : rm'.frames + 1 ≤ rm.frames ∧ 8 + (nL' + 11) + rm'.locals ≤ rm.locals) (hce : k + rm'.cells ≤ rm.cells ∧ n + rm'.slots ≤ rm.slots) (d : decode cc pc = .ok (.invokestatic ix, 3)) (h : ∀ (z : Int) (u : va_W), post z u → V K nL (wr ++ u) (k + rm'.cells) (n + rm'.slots) (pc + 3) lv (vj z :: st)) : V K nL ws k n pc lv st0 := by
  obtain ⟨p, l, e, R, s, m, args, below, meth, c, D, A, Q⟩ := K
  obtain ⟨hx, hb, hml, hown, hts, hK, hA, rfl, hnw⟩ := C
  subst hst
  intro H locs ls hP hD hS hl
  have hDc := hD.sub isC hnd hC
  have hPc := hP.sub (ws' := wc) isC (by
    have h1 : ∀ (is : List Nat) (ws' : va_W), is.map (fun i => ws[i]?) = ws'.map some → is.filterMap (fun i => ws[i]?) = ws' := by
      intro is
      induction is with
      | nil => intro ws' h; cases ws' with
        | nil => rfl
        | cons a t => cases h
      | cons i is ih => intro ws' h; cases ws' with
        | nil => cases h
        | cons a t =>
          rw [List.map_cons, List.map_cons] at h
          injection h with h1 h2
          rw [List.filterMap_cons, h1]
          show a :: List.filterMap _ is = a :: t
          rw [ih t h2]
    exact h1 isC wc hC)
  have hFc := va_free (wc := wc) hD hS hA isC hC
  have hXc : ∀ U : State, U.heap = H → s.WarmedH U.vm → X (va_A wc H.size) U := fun U hU hW => hX H locs _ U hS hFc hU hW
  have hp := pre_in (s := s) (H := H) (D := D) (cI := cI) (cJ := cJ) As hXb hXc hPc hDc hK hnw
  obtain ⟨⟨hlk, hi, h1, h2, h3⟩, hsta⟩ := hc
  rcases hlk with hlk | ⟨host, hlk⟩
  · exact va_calll (va_runS (Ts := al) (As := As) (rest := st) ⟨hx, hb, hml, hown, hts⟩ (hM l D H.size) ⟨cl_B hts hlk hi h1 h2 h3 cd hfr, hts _ hsta⟩ hp rfl hlen hl.1 rfl (lv_room hroom) d hce) hS (fun q _ h => hFc q h) hFc (fun r u t H1 locs1 ht hvm hq hB hz1 hk1 hS1 => by
    obtain ⟨z, rfl, hp⟩ := hq
    obtain ⟨hP1, hD1⟩ := hB
    rw [ht] at hP1
    obtain ⟨hP2, hD2⟩ := va_join hP hD isC isR hC hR hn hdis hk1 hFc hP1 hD1
    exact h z u hp H1 locs1 ls hP2 hD2 hS1 hl)
  · exact va_calll (va_runSN (Ts := al) (As := As) (rest := st) (host := host) ⟨hx, hb, hml, hown, hts⟩ (hM l D H.size) ⟨cl_N hts (hnw _ hlk) hi h1 h2 h3 cd hfr, hts _ hsta, trivial⟩ hp rfl hlen hl.1 rfl (lv_room hroom) d hce) hS (fun q _ h => hFc q h) hFc (fun r u t H1 locs1 ht hvm hq hB hz1 hk1 hS1 => by
    obtain ⟨z, rfl, hp⟩ := hq
    obtain ⟨hP1, hD1⟩ := hB
    rw [ht] at hP1
    obtain ⟨hP2, hD2⟩ := va_join hP hD isC isR hC hR hn hdis hk1 hFc hP1 hD1
    exact h z u hp H1 locs1 ls hP2 hD2 hS1 hl)
theorem qc_vV {K : Kx} {cI cJ : ClassId} {cc : ByteArray} {nL : Nat} {own : String} {rm : Room} {ws : va_W} {k n pc : Nat} {lv : List (Nat × Value)} {st : List Value} (C : Cx K cI cJ cc nL own rm) {ix np : Nat} {y : MethodName} {cc' : ByteArray} {nL' : Nat} {rm' : Room} {X : (Nat → Prop) → State → Prop} {b ci : Nat} {fs : List Value} {q0 : vw_C} {As : List Value} {wc wr : va_W} {post : va_W → Prop} {st0 : List Value} (hc : ClV own ix y np) (cd : Cond.code y cc' nL' none ∈ al) (hM : MtV cI cJ y cc' nL' rm' X (.ref b :: As) wc post) (hX : Xok K X) (hXb : Xbl X)
    (isC isR : List Nat) (hC : isC.map (fun i => ws[i]?) = wc.map some) (hR : isR.map (fun i => ws[i]?) = wr.map some) (hnd : va_nd isC = true) (hn : va_nd isR = true) (hdis : ∀ i ∈ isR, i ∉ isC) (j : Nat) (hj : wc[j]? = some (oc b ci fs)) (hcl : clz[ci]? = some q0) (hq0 : q0.1 = y.cls) (hst : st0 = As.reverse ++ .ref b :: st) (hlen : As.length = np) (hroom : (st.map fun v => v.category).sum ≤ 8) (hfr : rm'.frames + 1 ≤ rm.frames ∧ 8 + (nL' + 11) + rm'.locals ≤ rm.locals) (hce : k + rm'.cells ≤ rm.cells ∧ n + rm'.slots ≤ rm.slots) (d : decode cc pc = .ok (.invokevirtual ix, 3)) (h : ∀ (u : va_W), post u → V K nL (wr ++ u) (k + rm'.cells) (n + rm'.slots) (pc + 3) lv st) : V K nL ws k n pc lv st0 := by
  obtain ⟨p, l, e, R, s, m, args, below, meth, c, D, A, Q⟩ := K
  obtain ⟨hx, hb, hml, hown, hts, hK, hA, rfl, hnw⟩ := C
  subst hst
  intro H locs ls hP hD hS hl
  have hDc := hD.sub isC hnd hC
  have hPc := hP.sub (ws' := wc) isC (by
    have h1 : ∀ (is : List Nat) (ws' : va_W), is.map (fun i => ws[i]?) = ws'.map some → is.filterMap (fun i => ws[i]?) = ws' := by
      intro is
      induction is with
      | nil => intro ws' h; cases ws' with
        | nil => rfl
        | cons a t => cases h
      | cons i is ih => intro ws' h; cases ws' with
        | nil => cases h
        | cons a t =>
          rw [List.map_cons, List.map_cons] at h
          injection h with h1 h2
          rw [List.filterMap_cons, h1]
          show a :: List.filterMap _ is = a :: t
          rw [ih t h2]
    exact h1 isC wc hC)
  have hFc := va_free (wc := wc) hD hS hA isC hC
  have hXc : ∀ U : State, U.heap = H → s.WarmedH U.vm → X (va_A wc H.size) U := fun U hU hW => hX H locs _ U hS hFc hU hW
  have hp := pre_in (s := s) (H := H) (D := D) (cI := cI) (cJ := cJ) (.ref b :: As) hXb hXc hPc hDc hK hnw
  obtain ⟨⟨hlk, hi, h1, h2, h3⟩, hin, hsel⟩ := hc
  have hrc := va_recv (s := s) hK hPc hcl hj
  rw [hq0] at hrc
  rcases hlk with hlk | ⟨host, hlk⟩
  · exact va_callv (va_runV (Ts := al) (As := As) (rest := st) (C := y.cls) ⟨hx, hb, hml, hown, hts⟩ (hM l D H.size) ⟨cl_B hts hlk hi h1 h2 h3 cd hfr, hts _ hin, hts _ hsel⟩ ⟨hp.1, hrc, hp.2⟩ rfl hlen hl.1 rfl (lv_room hroom) d hce) hS (fun q _ h => hFc q h) hFc (fun u t H1 locs1 ht hvm hq hB hz1 hk1 hS1 => by
    have hp := hq
    obtain ⟨hP1, hD1⟩ := hB
    rw [ht] at hP1
    obtain ⟨hP2, hD2⟩ := va_join hP hD isC isR hC hR hn hdis hk1 hFc hP1 hD1
    exact h u hp H1 locs1 ls hP2 hD2 hS1 hl)
  · exact va_callv (va_runVN (Ts := al) (As := As) (rest := st) (C := y.cls) (host := host) ⟨hx, hb, hml, hown, hts⟩ (hM l D H.size) ⟨cl_N hts (hnw _ hlk) hi h1 h2 h3 cd hfr, hts _ hin, hts _ hsel⟩ ⟨hp.1, hrc, hp.2⟩ rfl hlen hl.1 rfl (lv_room hroom) d hce) hS (fun q _ h => hFc q h) hFc (fun u t H1 locs1 ht hvm hq hB hz1 hk1 hS1 => by
    have hp := hq
    obtain ⟨hP1, hD1⟩ := hB
    rw [ht] at hP1
    obtain ⟨hP2, hD2⟩ := va_join hP hD isC isR hC hR hn hdis hk1 hFc hP1 hD1
    exact h u hp H1 locs1 ls hP2 hD2 hS1 hl)
theorem qc_sV {K : Kx} {cI cJ : ClassId} {cc : ByteArray} {nL : Nat} {own : String} {rm : Room} {ws : va_W} {k n pc : Nat} {lv : List (Nat × Value)} {st : List Value} (C : Cx K cI cJ cc nL own rm) {ix np : Nat} {y : MethodName} {cc' : ByteArray} {nL' : Nat} {rm' : Room} {X : (Nat → Prop) → State → Prop} {As : List Value} {wc wr : va_W} {post : va_W → Prop} {st0 : List Value} (hc : ClS own ix y np) (cd : Cond.code y cc' nL' none ∈ al) (hM : MtV cI cJ y cc' nL' rm' X As wc post) (hX : Xok K X) (hXb : Xbl X)
    (isC isR : List Nat) (hC : isC.map (fun i => ws[i]?) = wc.map some) (hR : isR.map (fun i => ws[i]?) = wr.map some) (hnd : va_nd isC = true) (hn : va_nd isR = true) (hdis : ∀ i ∈ isR, i ∉ isC) (hst : st0 = As.reverse ++ st) (hlen : As.length = np) (hroom : (st.map fun v => v.category).sum ≤ 8) (hfr : rm'.frames + 1 ≤ rm.frames ∧ 8 + (nL' + 11) + rm'.locals ≤ rm.locals) (hce : k + rm'.cells ≤ rm.cells ∧ n + rm'.slots ≤ rm.slots) (d : decode cc pc = .ok (.invokestatic ix, 3)) (h : ∀ (u : va_W), post u → V K nL (wr ++ u) (k + rm'.cells) (n + rm'.slots) (pc + 3) lv st) : V K nL ws k n pc lv st0 := by
  obtain ⟨p, l, e, R, s, m, args, below, meth, c, D, A, Q⟩ := K
  obtain ⟨hx, hb, hml, hown, hts, hK, hA, rfl, hnw⟩ := C
  subst hst
  intro H locs ls hP hD hS hl
  have hDc := hD.sub isC hnd hC
  have hPc := hP.sub (ws' := wc) isC (by
    have h1 : ∀ (is : List Nat) (ws' : va_W), is.map (fun i => ws[i]?) = ws'.map some → is.filterMap (fun i => ws[i]?) = ws' := by
      intro is
      induction is with
      | nil => intro ws' h; cases ws' with
        | nil => rfl
        | cons a t => cases h
      | cons i is ih => intro ws' h; cases ws' with
        | nil => cases h
        | cons a t =>
          rw [List.map_cons, List.map_cons] at h
          injection h with h1 h2
          rw [List.filterMap_cons, h1]
          show a :: List.filterMap _ is = a :: t
          rw [ih t h2]
    exact h1 isC wc hC)
  have hFc := va_free (wc := wc) hD hS hA isC hC
  have hXc : ∀ U : State, U.heap = H → s.WarmedH U.vm → X (va_A wc H.size) U := fun U hU hW => hX H locs _ U hS hFc hU hW
  have hp := pre_in (s := s) (H := H) (D := D) (cI := cI) (cJ := cJ) As hXb hXc hPc hDc hK hnw
  obtain ⟨⟨hlk, hi, h1, h2, h3⟩, hsta⟩ := hc
  rcases hlk with hlk | ⟨host, hlk⟩
  · exact va_callv (va_runS (Ts := al) (As := As) (rest := st) ⟨hx, hb, hml, hown, hts⟩ (hM l D H.size) ⟨cl_B hts hlk hi h1 h2 h3 cd hfr, hts _ hsta⟩ hp rfl hlen hl.1 rfl (lv_room hroom) d hce) hS (fun q _ h => hFc q h) hFc (fun u t H1 locs1 ht hvm hq hB hz1 hk1 hS1 => by
    have hp := hq
    obtain ⟨hP1, hD1⟩ := hB
    rw [ht] at hP1
    obtain ⟨hP2, hD2⟩ := va_join hP hD isC isR hC hR hn hdis hk1 hFc hP1 hD1
    exact h u hp H1 locs1 ls hP2 hD2 hS1 hl)
  · exact va_callv (va_runSN (Ts := al) (As := As) (rest := st) (host := host) ⟨hx, hb, hml, hown, hts⟩ (hM l D H.size) ⟨cl_N hts (hnw _ hlk) hi h1 h2 h3 cd hfr, hts _ hsta, trivial⟩ hp rfl hlen hl.1 rfl (lv_room hroom) d hce) hS (fun q _ h => hFc q h) hFc (fun u t H1 locs1 ht hvm hq hB hz1 hk1 hS1 => by
    have hp := hq
    obtain ⟨hP1, hD1⟩ := hB
    rw [ht] at hP1
    obtain ⟨hP2, hD2⟩ := va_join hP hD isC isR hC hR hn hdis hk1 hFc hP1 hD1
    exact h u hp H1 locs1 ls hP2 hD2 hS1 hl)
theorem qc_iV {K : Kx} {cI cJ : ClassId} {cc : ByteArray} {nL : Nat} {own : String} {rm : Room} {ws : va_W} {k n pc : Nat} {lv : List (Nat × Value)} {st : List Value} (C : Cx K cI cJ cc nL own rm) {ix np : Nat} {y : MethodName} {cc' : ByteArray} {nL' : Nat} {rm' : Room} {X : (Nat → Prop) → State → Prop} {b : Nat} {As : List Value} {wc wr : va_W} {post : va_W → Prop} {st0 : List Value} (hc : ClI own ix y np) (cd : Cond.code y cc' nL' none ∈ al) (hM : MtV cI cJ y cc' nL' rm' X (.ref b :: As) wc post) (hX : Xok K X) (hXb : Xbl X)
    (isC isR : List Nat) (hC : isC.map (fun i => ws[i]?) = wc.map some) (hR : isR.map (fun i => ws[i]?) = wr.map some) (hnd : va_nd isC = true) (hn : va_nd isR = true) (hdis : ∀ i ∈ isR, i ∉ isC) (hst : st0 = As.reverse ++ .ref b :: st) (hlen : As.length = np) (hroom : (st.map fun v => v.category).sum ≤ 8) (hfr : rm'.frames + 1 ≤ rm.frames ∧ 8 + (nL' + 11) + rm'.locals ≤ rm.locals) (hce : k + rm'.cells ≤ rm.cells ∧ n + rm'.slots ≤ rm.slots) (d : decode cc pc = .ok (.invokespecial ix, 3)) (h : ∀ (u : va_W), post u → V K nL (wr ++ u) (k + rm'.cells) (n + rm'.slots) (pc + 3) lv st) : V K nL ws k n pc lv st0 := by
  obtain ⟨p, l, e, R, s, m, args, below, meth, c, D, A, Q⟩ := K
  obtain ⟨hx, hb, hml, hown, hts, hK, hA, rfl, hnw⟩ := C
  subst hst
  intro H locs ls hP hD hS hl
  have hDc := hD.sub isC hnd hC
  have hPc := hP.sub (ws' := wc) isC (by
    have h1 : ∀ (is : List Nat) (ws' : va_W), is.map (fun i => ws[i]?) = ws'.map some → is.filterMap (fun i => ws[i]?) = ws' := by
      intro is
      induction is with
      | nil => intro ws' h; cases ws' with
        | nil => rfl
        | cons a t => cases h
      | cons i is ih => intro ws' h; cases ws' with
        | nil => cases h
        | cons a t =>
          rw [List.map_cons, List.map_cons] at h
          injection h with h1 h2
          rw [List.filterMap_cons, h1]
          show a :: List.filterMap _ is = a :: t
          rw [ih t h2]
    exact h1 isC wc hC)
  have hFc := va_free (wc := wc) hD hS hA isC hC
  have hXc : ∀ U : State, U.heap = H → s.WarmedH U.vm → X (va_A wc H.size) U := fun U hU hW => hX H locs _ U hS hFc hU hW
  have hp := pre_in (s := s) (H := H) (D := D) (cI := cI) (cJ := cJ) (.ref b :: As) hXb hXc hPc hDc hK hnw
  obtain ⟨⟨hlk, hi, h1, h2, h3⟩, hin, hnm⟩ := hc
  rcases hlk with hlk | ⟨host, hlk⟩
  · exact va_callv (va_runI (Ts := al) (As := As) (rest := st) ⟨hx, hb, hml, hown, hts⟩ (hM l D H.size) ⟨cl_B hts hlk hi h1 h2 h3 cd hfr, hnm, hts _ hin⟩ hp rfl hlen hl.1 rfl (lv_room hroom) d hce) hS (fun q _ h => hFc q h) hFc (fun u t H1 locs1 ht hvm hq hB hz1 hk1 hS1 => by
    have hp := hq
    obtain ⟨hP1, hD1⟩ := hB
    rw [ht] at hP1
    obtain ⟨hP2, hD2⟩ := va_join hP hD isC isR hC hR hn hdis hk1 hFc hP1 hD1
    exact h u hp H1 locs1 ls hP2 hD2 hS1 hl)
  · exact va_callv (va_runIN (Ts := al) (As := As) (rest := st) (host := host) ⟨hx, hb, hml, hown, hts⟩ (hM l D H.size) ⟨cl_N hts (hnw _ hlk) hi h1 h2 h3 cd hfr, hnm, hts _ hin⟩ hp rfl hlen hl.1 rfl (lv_room hroom) d hce) hS (fun q _ h => hFc q h) hFc (fun u t H1 locs1 ht hvm hq hB hz1 hk1 hS1 => by
    have hp := hq
    obtain ⟨hP1, hD1⟩ := hB
    rw [ht] at hP1
    obtain ⟨hP2, hD2⟩ := va_join hP hD isC isR hC hR hn hdis hk1 hFc hP1 hD1
    exact h u hp H1 locs1 ls hP2 hD2 hS1 hl)
end
section
/-! members of the JDK that are rows of the kit -/
theorem qv_mmin {K : Kx} {cI cJ : ClassId} {cc : ByteArray} {nL : Nat} {own : String} {rm : Room} {ws : va_W} {k n pc : Nat} {lv : List (Nat × Value)} {st : List Value} (C : Cx K cI cJ cc nL own rm) {ix : Nat} {a b r : Int} (hlk : Cond.methodLink own ix Lib.Math.min.name ∈ al) (hst : Cond.static Lib.Math.min.name ∈ al) (hini : Cond.initialized "java/lang/Math" ∈ al) (hcode : Cond.code Lib.Math.min.name Lib.Math.min.code 2 (some .int) ∈ al) (ha : ri a) (hb0 : ri b) (hfr : 1 ≤ rm.frames) (hlo : (st.map fun v => v.category).sum + 13 ≤ rm.locals) (hk : k ≤ rm.cells) (hn : n ≤ rm.slots) (er : min a b = r) (d : decode cc pc = .ok (.invokestatic ix, 3)) (h : V K nL ws k n (pc + 3) lv (vi r :: st)) : V K nL ws k n pc lv (vi b :: vi a :: st) := by
  subst er
  obtain ⟨p, l, e, R, s, m, args, below, meth, c, D, A, Q⟩ := K
  obtain ⟨hx, hb, hml, hown, hts, hK, hA, rfl, hnw⟩ := C
  intro H locs ls hP hD hS hl
  refine va_mmin hx hb (hml.trans hl.1.symm) hown (hts _ hlk) (hts _ hst) (hts _ hini) (hts _ hcode) hfr hlo hk hn d ?_
  have e0 : (if zi b < zi a then zi b else zi a) = zi (min a b) := by
    by_cases q : b < a
    · rw [if_pos ((zi_lt (by omega) (by omega)).mpr q)]; congr 1; omega
    · rw [if_neg (fun z => q ((zi_lt (by omega) (by omega)).mp z))]; congr 1; omega
  rw [e0]
  exact h H locs ls hP hD hS hl
theorem qv_mmax {K : Kx} {cI cJ : ClassId} {cc : ByteArray} {nL : Nat} {own : String} {rm : Room} {ws : va_W} {k n pc : Nat} {lv : List (Nat × Value)} {st : List Value} (C : Cx K cI cJ cc nL own rm) {ix : Nat} {a b r : Int} (hlk : Cond.methodLink own ix Lib.Math.max.name ∈ al) (hst : Cond.static Lib.Math.max.name ∈ al) (hini : Cond.initialized "java/lang/Math" ∈ al) (hcode : Cond.code Lib.Math.max.name Lib.Math.max.code 2 (some .int) ∈ al) (ha : ri a) (hb0 : ri b) (hfr : 1 ≤ rm.frames) (hlo : (st.map fun v => v.category).sum + 13 ≤ rm.locals) (hk : k ≤ rm.cells) (hn : n ≤ rm.slots) (er : max a b = r) (d : decode cc pc = .ok (.invokestatic ix, 3)) (h : V K nL ws k n (pc + 3) lv (vi r :: st)) : V K nL ws k n pc lv (vi b :: vi a :: st) := by
  subst er
  obtain ⟨p, l, e, R, s, m, args, below, meth, c, D, A, Q⟩ := K
  obtain ⟨hx, hb, hml, hown, hts, hK, hA, rfl, hnw⟩ := C
  intro H locs ls hP hD hS hl
  refine va_mmax hx hb (hml.trans hl.1.symm) hown (hts _ hlk) (hts _ hst) (hts _ hini) (hts _ hcode) hfr hlo hk hn d ?_
  have e0 : (if zi a < zi b then zi b else zi a) = zi (max a b) := by
    by_cases q : a < b
    · rw [if_pos ((zi_lt (by omega) (by omega)).mpr q)]; congr 1; omega
    · rw [if_neg (fun z => q ((zi_lt (by omega) (by omega)).mp z))]; congr 1; omega
  rw [e0]
  exact h H locs ls hP hD hS hl
theorem cpy_i (f g : Nat → Nat) (sp dp n : Nat) : va_cpy (fun i => zi (f i : Nat)) (fun i => zi (g i : Nat)) sp dp n = fun i => zi (va_cpy f g sp dp n i : Nat) := by
  funext i; unfold va_cpy; split <;> rfl
theorem qv_copy {K : Kx} {cI cJ : ClassId} {cc : ByteArray} {nL : Nat} {own : String} {rm : Room} {ws : va_W} {k n pc : Nat} {lv : List (Nat × Value)} {st : List Value} (C : Cx K cI cJ cc nL own rm) {ix a a0 n0 n1 : Nat} {f g : Nat → Nat} {zs zd zn : Int} {ws' : va_W} (hlk : Cond.methodLink own ix arraycopyName ∈ al) (hnat : Cond.native arraycopyName ∈ al) (hstat : Cond.static arraycopyName ∈ al) (hini : Cond.initialized "java/lang/System" ∈ al) (q0 q1 sp dp cnt : Nat) (ha0 : ws[q0]? = some (ai cI a0 n0 f)) (ha1 : ws[q1]? = some (ai cI a n1 g)) (es : zs = (sp : Int)) (ed : zd = (dp : Int)) (en : zn = (cnt : Int)) (h4 : sp + cnt ≤ n0) (h5 : dp + cnt ≤ n1) (hb1 : n0 ≤ 2147483647) (hb2 : n1 ≤ 2147483647) (hfr : 1 ≤ rm.frames) (hlo : (st.map fun v => v.category).sum + (nativeFrameWords "java/lang/System" "arraycopy" 5 + 11) ≤ rm.locals) (hw2 : ws.set q1 (ai cI a n1 (va_cpy f g sp dp cnt)) = ws') (d : decode cc pc = .ok (.invokestatic ix, 3)) (h : V K nL ws' k n (pc + 3) lv st) : V K nL ws k n pc lv (vi zn :: vi zd :: .ref a :: vi zs :: .ref a0 :: st) := by
  subst es ed en hw2
  obtain ⟨p, l, e, R, s, m, args, below, meth, c, D, A, Q⟩ := K
  obtain ⟨hx, hb, hml, hown, hts, hK, hA, rfl, hnw⟩ := C
  intro H locs ls hP hD hS hl
  have e1 := zi_nat (k := sp) (by omega)
  have e2 := zi_nat (k := dp) (by omega)
  have e3 := zi_nat (k := cnt) (by omega)
  have nn : ∀ x : Nat, x ≤ 2147483647 → ¬ zi (x : Int) < 0 := fun x hx2 => by rw [← zi_0, zi_lt (by omega) (by omega)]; omega
  refine va_copyi hx hb (hml.trans hl.1.symm) hown (hts _ hlk) (hts _ hnat) (hts _ hstat) (hts _ hini) hK hP hD hS q0 q1 0 0 ha0 ha1 rfl rfl rfl (nn sp (by omega)) (nn dp (by omega)) (nn cnt (by omega)) (by rw [e1, e3]; exact h4) (by rw [e2, e3]; exact h5) (fun _ _ => rfl) hfr hlo d (fun H1 locs1 hP1 hD1 hS1 => ?_)
  rw [e1, e2, e3, cpy_i] at hP1 hD1
  exact h H1 locs1 ls hP1 hD1 hS1 hl
theorem qv_alenJ {K : Kx} {cI cJ : ClassId} {cc : ByteArray} {nL : Nat} {own : String} {rm : Room} {ws : va_W} {k n pc : Nat} {lv : List (Nat × Value)} {st : List Value} (C : Cx K cI cJ cc nL own rm) {a N : Nat} {f : Nat → Nat} (q : Nat) (hw : ws[q]? = some (aj cJ a N f)) (d : decode cc pc = .ok (.arraylength, 1)) (h : V K nL ws k n (pc + 1) lv (vi (N : Nat) :: st)) : V K nL ws k n pc lv (.ref a :: st) := by
  obtain ⟨p, l, e, R, s, m, args, below, meth, c, D, A, Q⟩ := K
  obtain ⟨hx, hb, hml, hown, hts, hK, hA, rfl, hnw⟩ := C
  intro H locs ls hP hD hS hl
  exact va_alen hx hb hK hP q 1 hw rfl (zi_ofNat N) d (h H locs ls hP hD hS hl)
theorem nz_b2 (b : Bool) : narrow .boolean (vi (b2 b)) = vi (b2 b) := by cases b <;> rfl
theorem fz_b2 (b : Bool) : fits .boolean (vi (b2 b)) = true := by cases b <;> rfl
theorem rb_b2 (b : Bool) : ri (b2 b) := by cases b <;> decide
theorem b2_t {b : Bool} (h : b2 b ≠ 0) : b = true := by cases b with
  | true => rfl
  | false => exact absurd rfl h
theorem b2_f {b : Bool} (h : b2 b = 0) : b = false := by cases b with
  | false => rfl
  | true => exact absurd h (by decide)
end
section
abbrev rm_Tru_init : Room := { frames := 2, cells := 12, slots := 3447, locals := 41 }
abbrev rm_Tru_set : Room := { frames := 7, cells := 0, slots := 0, locals := 103 }
abbrev rm_Tru_digit : Room := { frames := 7, cells := 0, slots := 0, locals := 103 }
abbrev rm_Tru_clear : Room := { frames := 7, cells := 0, slots := 0, locals := 103 }
abbrev rm_Tru_round : Room := { frames := 7, cells := 0, slots := 0, locals := 103 }
abbrev rm_Tru_places : Room := { frames := 7, cells := 0, slots := 0, locals := 103 }
abbrev rm_Tru_nearest : Room := { frames := 7, cells := 0, slots := 0, locals := 103 }
abbrev rm_Tru_enough : Room := { frames := 7, cells := 0, slots := 0, locals := 145 }
abbrev rm_Tru_look : Room := { frames := 7, cells := 0, slots := 0, locals := 103 }
abbrev rm_Tru_count : Room := { frames := 7, cells := 0, slots := 0, locals := 103 }
abbrev rm_Tru_hasNoRoomFor : Room := { frames := 0, cells := 0, slots := 0, locals := 0 }
abbrev rm_Tru_bringDigit : Room := { frames := 1, cells := 0, slots := 0, locals := 21 }
abbrev rm_Tru_forgetWhatCame : Room := { frames := 0, cells := 0, slots := 0, locals := 0 }
abbrev rm_Tru_roundToDigits : Room := { frames := 3, cells := 0, slots := 0, locals := 63 }
abbrev rm_Tru_nearestSize : Room := { frames := 3, cells := 0, slots := 0, locals := 81 }
abbrev rm_Tru_leastDigitsFor : Room := { frames := 5, cells := 0, slots := 0, locals := 121 }
abbrev rm_Tru_holdsWith : Room := { frames := 2, cells := 0, slots := 0, locals := 62 }
abbrev rm_Tru_spellMiddleAbove : Room := { frames := 4, cells := 0, slots := 0, locals := 98 }
abbrev rm_Tru_spell : Room := { frames := 3, cells := 0, slots := 0, locals := 74 }
abbrev rm_Tru_factorOf : Room := { frames := 0, cells := 0, slots := 0, locals := 0 }
abbrev rm_Tru_powerOf : Room := { frames := 1, cells := 0, slots := 0, locals := 21 }
abbrev rm_Mod_init : Room := { frames := 1, cells := 6, slots := 6300, locals := 21 }
abbrev rm_Mod_thrown : Room := { frames := 0, cells := 0, slots := 0, locals := 0 }
abbrev rm_Mod_in : Room := { frames := 0, cells := 0, slots := 0, locals := 0 }
abbrev rm_Mod_fails : Room := { frames := 0, cells := 0, slots := 0, locals := 0 }
abbrev rm_Mod_set : Room := { frames := 1, cells := 0, slots := 0, locals := 23 }
abbrev rm_Mod_twice : Room := { frames := 0, cells := 0, slots := 0, locals := 0 }
abbrev rm_Mod_half : Room := { frames := 0, cells := 0, slots := 0, locals := 0 }
abbrev rm_Mod_keep : Room := { frames := 0, cells := 0, slots := 0, locals := 0 }
abbrev rm_Mod_digit : Room := { frames := 1, cells := 0, slots := 0, locals := 25 }
abbrev rm_Mod_clear : Room := { frames := 1, cells := 0, slots := 0, locals := 25 }
abbrev rm_Mod_cut : Room := { frames := 1, cells := 0, slots := 0, locals := 20 }
abbrev rm_Mod_nothing : Room := { frames := 0, cells := 0, slots := 0, locals := 0 }
abbrev rm_Mod_round : Room := { frames := 2, cells := 0, slots := 0, locals := 44 }
abbrev rm_Mod_places : Room := { frames := 2, cells := 0, slots := 0, locals := 44 }
abbrev rm_Mod_finds : Room := { frames := 1, cells := 0, slots := 0, locals := 31 }
abbrev rm_Mod_isNothing : Room := { frames := 0, cells := 0, slots := 0, locals := 0 }
abbrev rm_Mod_put : Room := { frames := 0, cells := 0, slots := 0, locals := 0 }
abbrev rm_Mod_nearest : Room := { frames := 2, cells := 0, slots := 0, locals := 63 }
abbrev rm_Mod_exactly : Room := { frames := 1, cells := 0, slots := 0, locals := 23 }
abbrev rm_Mod_compare : Room := { frames := 0, cells := 0, slots := 0, locals := 0 }
abbrev rm_Mod_enough : Room := { frames := 2, cells := 0, slots := 0, locals := 63 }
abbrev rm_Mod_look : Room := { frames := 1, cells := 0, slots := 0, locals := 25 }
abbrev rm_Mod_count : Room := { frames := 1, cells := 0, slots := 0, locals := 25 }
abbrev rm_Dec_init : Room := { frames := 1, cells := 1, slots := 800, locals := 21 }
abbrev rm_Dec_beZero : Room := { frames := 0, cells := 0, slots := 0, locals := 0 }
abbrev rm_Dec_beStartOf : Room := { frames := 1, cells := 0, slots := 0, locals := 40 }
abbrev rm_Dec_append : Room := { frames := 0, cells := 0, slots := 0, locals := 0 }
abbrev rm_Dec_cutBehind : Room := { frames := 2, cells := 0, slots := 0, locals := 41 }
abbrev rm_Dec_goesUpBehind : Room := { frames := 0, cells := 0, slots := 0, locals := 0 }
abbrev rm_Dec_settle : Room := { frames := 1, cells := 0, slots := 0, locals := 20 }
abbrev rm_Dec_goUp : Room := { frames := 0, cells := 0, slots := 0, locals := 0 }
abbrev rm_Dec_dropZerosAtEnd : Room := { frames := 0, cells := 0, slots := 0, locals := 0 }
abbrev rm_Dec_against : Room := { frames := 1, cells := 0, slots := 0, locals := 21 }
abbrev rm_Dec_read : Room := { frames := 2, cells := 0, slots := 0, locals := 46 }
abbrev rm_Dec_readGroup : Room := { frames := 1, cells := 0, slots := 0, locals := 21 }
abbrev rm_Grp_init : Room := { frames := 1, cells := 1, slots := 160, locals := 21 }
abbrev rm_Grp_placeOfFirst : Room := { frames := 0, cells := 0, slots := 0, locals := 0 }
abbrev rm_Grp_hasSomethingBehindPoint : Room := { frames := 0, cells := 0, slots := 0, locals := 0 }
abbrev rm_Grp_beProduct : Room := { frames := 2, cells := 0, slots := 0, locals := 50 }
abbrev rm_Grp_load : Room := { frames := 1, cells := 0, slots := 0, locals := 24 }
abbrev rm_Grp_multiply : Room := { frames := 1, cells := 0, slots := 0, locals := 21 }
abbrev rm_Grp_divide : Room := { frames := 1, cells := 0, slots := 0, locals := 21 }
abbrev rm_Wrd_init : Room := { frames := 1, cells := 1, slots := 70, locals := 21 }
abbrev rm_Wrd_load : Room := { frames := 2, cells := 0, slots := 0, locals := 50 }
abbrev rm_Wrd_roundedSize : Room := { frames := 2, cells := 0, slots := 0, locals := 53 }
abbrev rm_Wrd_roundHead : Room := { frames := 1, cells := 0, slots := 0, locals := 21 }
abbrev rm_Wrd_firstThatIsNotZero : Room := { frames := 0, cells := 0, slots := 0, locals := 0 }
abbrev rm_Wrd_isMoreFrom : Room := { frames := 0, cells := 0, slots := 0, locals := 0 }
abbrev rm_Law_set : Room := { frames := 8, cells := 0, slots := 0, locals := 127 }
abbrev rm_Law_digit : Room := { frames := 8, cells := 0, slots := 0, locals := 124 }
abbrev rm_Law_clear : Room := { frames := 8, cells := 0, slots := 0, locals := 125 }
abbrev rm_Law_round : Room := { frames := 8, cells := 0, slots := 0, locals := 124 }
abbrev rm_Law_places : Room := { frames := 8, cells := 0, slots := 0, locals := 124 }
abbrev rm_Law_nearest : Room := { frames := 8, cells := 0, slots := 0, locals := 125 }
abbrev rm_Law_enough : Room := { frames := 8, cells := 0, slots := 0, locals := 168 }
abbrev rm_Law_look : Room := { frames := 8, cells := 0, slots := 0, locals := 124 }
abbrev rm_Law_count : Room := { frames := 8, cells := 0, slots := 0, locals := 124 }
abbrev rm_JInt_compare : Room := { frames := 0, cells := 0, slots := 0, locals := 0 }
abbrev rm_JInt_numberOfLeadingZeros : Room := { frames := 0, cells := 0, slots := 0, locals := 0 }
abbrev rm_JLon_numberOfLeadingZeros : Room := { frames := 1, cells := 0, slots := 0, locals := 21 }
abbrev rm_JArr_fill : Room := { frames := 0, cells := 0, slots := 0, locals := 0 }
/-! rows that link: fields, calls, numbers -/
theorem fs_0_0 : Fs 0 0 (.array .int) true := ⟨_, _, _, ty0_, rfl, tt_0, tn_0, rfl, by decide +kernel⟩
theorem fs_0_1 : Fs 0 1 (.int) false := ⟨_, _, _, ty0_, rfl, tt_0, tn_0, rfl, by decide +kernel⟩
theorem fs_0_2 : Fs 0 2 (.int) false := ⟨_, _, _, ty0_, rfl, tt_0, tn_0, rfl, by decide +kernel⟩
theorem fs_1_0 : Fs 1 0 (.array .long) true := ⟨_, _, _, ty1_, rfl, tt_1, tn_1, rfl, by decide +kernel⟩
theorem fs_1_1 : Fs 1 1 (.int) false := ⟨_, _, _, ty1_, rfl, tt_1, tn_1, rfl, by decide +kernel⟩
theorem fs_1_2 : Fs 1 2 (.int) false := ⟨_, _, _, ty1_, rfl, tt_1, tn_1, rfl, by decide +kernel⟩
theorem fs_2_0 : Fs 2 0 (.array .long) true := ⟨_, _, _, ty2_, rfl, tt_2, tn_2, rfl, by decide +kernel⟩
theorem fs_2_1 : Fs 2 1 (.boolean) false := ⟨_, _, _, ty2_, rfl, tt_2, tn_2, rfl, by decide +kernel⟩
theorem fs_3_0 : Fs 3 0 (.object "DecimalTruth$Decimal") true := ⟨_, _, _, ty3_, rfl, tt_3, tn_3, rfl, by decide +kernel⟩
theorem fs_3_1 : Fs 3 1 (.boolean) false := ⟨_, _, _, ty3_, rfl, tt_3, tn_3, rfl, by decide +kernel⟩
theorem fs_3_2 : Fs 3 2 (.int) false := ⟨_, _, _, ty3_, rfl, tt_3, tn_3, rfl, by decide +kernel⟩
theorem fs_3_3 : Fs 3 3 (.int) false := ⟨_, _, _, ty3_, rfl, tt_3, tn_3, rfl, by decide +kernel⟩
theorem fs_3_4 : Fs 3 4 (.object "DecimalTruth$Groups") true := ⟨_, _, _, ty3_, rfl, tt_3, tn_3, rfl, by decide +kernel⟩
theorem fs_3_5 : Fs 3 5 (.object "DecimalTruth$Words") true := ⟨_, _, _, ty3_, rfl, tt_3, tn_3, rfl, by decide +kernel⟩
theorem fs_3_6 : Fs 3 6 (.object "DecimalTruth$Decimal") true := ⟨_, _, _, ty3_, rfl, tt_3, tn_3, rfl, by decide +kernel⟩
theorem fs_3_7 : Fs 3 7 (.object "DecimalTruth$Decimal") true := ⟨_, _, _, ty3_, rfl, tt_3, tn_3, rfl, by decide +kernel⟩
theorem fs_3_8 : Fs 3 8 (.object "DecimalTruth$Decimal") true := ⟨_, _, _, ty3_, rfl, tt_3, tn_3, rfl, by decide +kernel⟩
theorem fs_4_0 : Fs 4 0 (.int) false := ⟨_, _, _, ty4_, rfl, tt_4, tn_4, rfl, by decide +kernel⟩
theorem fs_4_1 : Fs 4 1 (.boolean) false := ⟨_, _, _, ty4_, rfl, tt_4, tn_4, rfl, by decide +kernel⟩
theorem fs_4_2 : Fs 4 2 (.array .int) true := ⟨_, _, _, ty4_, rfl, tt_4, tn_4, rfl, by decide +kernel⟩
theorem fs_4_3 : Fs 4 3 (.int) false := ⟨_, _, _, ty4_, rfl, tt_4, tn_4, rfl, by decide +kernel⟩
theorem fs_4_4 : Fs 4 4 (.int) false := ⟨_, _, _, ty4_, rfl, tt_4, tn_4, rfl, by decide +kernel⟩
theorem fs_4_5 : Fs 4 5 (.int) false := ⟨_, _, _, ty4_, rfl, tt_4, tn_4, rfl, by decide +kernel⟩
theorem fs_4_6 : Fs 4 6 (.int) false := ⟨_, _, _, ty4_, rfl, tt_4, tn_4, rfl, by decide +kernel⟩
theorem fs_4_7 : Fs 4 7 (.array .int) true := ⟨_, _, _, ty4_, rfl, tt_4, tn_4, rfl, by decide +kernel⟩
theorem fs_4_8 : Fs 4 8 (.int) false := ⟨_, _, _, ty4_, rfl, tt_4, tn_4, rfl, by decide +kernel⟩
theorem fs_4_9 : Fs 4 9 (.int) false := ⟨_, _, _, ty4_, rfl, tt_4, tn_4, rfl, by decide +kernel⟩
theorem fs_4_10 : Fs 4 10 (.long) false := ⟨_, _, _, ty4_, rfl, tt_4, tn_4, rfl, by decide +kernel⟩
theorem fs_4_11 : Fs 4 11 (.array .int) true := ⟨_, _, _, ty4_, rfl, tt_4, tn_4, rfl, by decide +kernel⟩
theorem fs_4_12 : Fs 4 12 (.array .int) true := ⟨_, _, _, ty4_, rfl, tt_4, tn_4, rfl, by decide +kernel⟩
theorem fs_4_13 : Fs 4 13 (.array .int) true := ⟨_, _, _, ty4_, rfl, tt_4, tn_4, rfl, by decide +kernel⟩
theorem fs_4_14 : Fs 4 14 (.array .int) true := ⟨_, _, _, ty4_, rfl, tt_4, tn_4, rfl, by decide +kernel⟩
theorem fs_4_15 : Fs 4 15 (.int) false := ⟨_, _, _, ty4_, rfl, tt_4, tn_4, rfl, by decide +kernel⟩
theorem fs_4_16 : Fs 4 16 (.int) false := ⟨_, _, _, ty4_, rfl, tt_4, tn_4, rfl, by decide +kernel⟩
theorem fs_4_17 : Fs 4 17 (.int) false := ⟨_, _, _, ty4_, rfl, tt_4, tn_4, rfl, by decide +kernel⟩
theorem fs_4_18 : Fs 4 18 (.int) false := ⟨_, _, _, ty4_, rfl, tt_4, tn_4, rfl, by decide +kernel⟩
theorem cl_Tru_11 : ClI RT 11 ky_Dec_init 0 := ⟨⟨Or.inr ⟨"DecimalTruth", (wn (i := 27) rfl rfl)⟩, (wl (i := 2) rfl rfl), by decide, by decide, by decide +kernel⟩, (wl (i := 28) rfl rfl), rfl⟩
theorem fl_Tru_12 : Fl RT 12 3 0 := ⟨"DecimalTruth", TF3, 9, rfl, by decide, rfl, tu_3, Or.inl (wl (i := 81) rfl rfl)⟩
theorem cl_Tru_18 : ClI RT 18 ky_Grp_init 0 := ⟨⟨Or.inr ⟨"DecimalTruth", (wn (i := 50) rfl rfl)⟩, (wl (i := 3) rfl rfl), by decide, by decide, by decide +kernel⟩, (wl (i := 51) rfl rfl), rfl⟩
theorem fl_Tru_19 : Fl RT 19 3 4 := ⟨"DecimalTruth", TF3, 9, rfl, by decide, rfl, tu_3, Or.inl (wl (i := 85) rfl rfl)⟩
theorem cl_Tru_25 : ClI RT 25 ky_Wrd_init 0 := ⟨⟨Or.inr ⟨"DecimalTruth", (wn (i := 70) rfl rfl)⟩, (wl (i := 4) rfl rfl), by decide, by decide, by decide +kernel⟩, (wl (i := 71) rfl rfl), rfl⟩
theorem fl_Tru_26 : Fl RT 26 3 5 := ⟨"DecimalTruth", TF3, 9, rfl, by decide, rfl, tu_3, Or.inl (wl (i := 86) rfl rfl)⟩
theorem fl_Tru_30 : Fl RT 30 3 6 := ⟨"DecimalTruth", TF3, 9, rfl, by decide, rfl, tu_3, Or.inl (wl (i := 87) rfl rfl)⟩
theorem fl_Tru_33 : Fl RT 33 3 7 := ⟨"DecimalTruth", TF3, 9, rfl, by decide, rfl, tu_3, Or.inl (wl (i := 88) rfl rfl)⟩
theorem fl_Tru_36 : Fl RT 36 3 8 := ⟨"DecimalTruth", TF3, 9, rfl, by decide, rfl, tu_3, Or.inl (wl (i := 89) rfl rfl)⟩
theorem wk_Tru_39 : Cond.constantLong RT 39 (zj 9223372036854775807) ∈ al := wl (i := 117) rfl rfl
theorem wk_Tru_41 : Cond.constantLong RT 41 (zj 9218868437227405312) ∈ al := wl (i := 118) rfl rfl
theorem fl_Tru_50 : Fl RT 50 3 1 := ⟨"DecimalTruth", TF3, 9, rfl, by decide, rfl, tu_3, Or.inl (wl (i := 82) rfl rfl)⟩
theorem cl_Tru_54 : ClS RT 54 ky_Tru_factorOf 1 := ⟨⟨Or.inl (wl (i := 187) rfl rfl), (wl (i := 1) rfl rfl), by decide, by decide, by decide +kernel⟩, (wl (i := 188) rfl rfl)⟩
theorem cl_Tru_58 : ClS RT 58 ky_Tru_powerOf 1 := ⟨⟨Or.inl (wl (i := 191) rfl rfl), (wl (i := 1) rfl rfl), by decide, by decide, by decide +kernel⟩, (wl (i := 192) rfl rfl)⟩
theorem cl_Tru_62 : ClV RT 62 ky_Tru_spell 3 := ⟨⟨Or.inl (wl (i := 197) rfl rfl), (wl (i := 1) rfl rfl), by decide, by decide, by decide +kernel⟩, (wl (i := 199) rfl rfl), (wp (i := 1) rfl)⟩
theorem cl_Tru_66 : ClV RT 66 ky_Tru_forgetWhatCame 0 := ⟨⟨Or.inl (wl (i := 243) rfl rfl), (wl (i := 1) rfl rfl), by decide, by decide, by decide +kernel⟩, (wl (i := 245) rfl rfl), (wp (i := 4) rfl)⟩
theorem fl_Tru_69 : Fl RT 69 0 1 := ⟨"DecimalTruth$Decimal", TF0, 3, rfl, by decide, rfl, tu_0, Or.inr ⟨"DecimalTruth", (wn (i := 35) rfl rfl)⟩⟩
theorem cl_Tru_75 : ClV RT 75 ky_Tru_hasNoRoomFor 1 := ⟨⟨Or.inl (wl (i := 256) rfl rfl), (wl (i := 1) rfl rfl), by decide, by decide, by decide +kernel⟩, (wl (i := 258) rfl rfl), (wp (i := 5) rfl)⟩
theorem cl_Tru_84 : ClV RT 84 ky_Tru_bringDigit 1 := ⟨⟨Or.inl (wl (i := 276) rfl rfl), (wl (i := 1) rfl rfl), by decide, by decide, by decide +kernel⟩, (wl (i := 278) rfl rfl), (wp (i := 6) rfl)⟩
theorem fl_Tru_88 : Fl RT 88 3 3 := ⟨"DecimalTruth", TF3, 9, rfl, by decide, rfl, tu_3, Or.inl (wl (i := 84) rfl rfl)⟩
theorem fl_Tru_91 : Fl RT 91 3 2 := ⟨"DecimalTruth", TF3, 9, rfl, by decide, rfl, tu_3, Or.inl (wl (i := 83) rfl rfl)⟩
theorem cl_Tru_96 : ClV RT 96 ky_Dec_beZero 0 := ⟨⟨Or.inl (wl (i := 289) rfl rfl), (wl (i := 2) rfl rfl), by decide, by decide, by decide +kernel⟩, (wl (i := 290) rfl rfl), (wl (i := 291) rfl rfl)⟩
theorem cl_Tru_101 : ClV RT 101 ky_Tru_roundToDigits 1 := ⟨⟨Or.inl (wl (i := 301) rfl rfl), (wl (i := 1) rfl rfl), by decide, by decide, by decide +kernel⟩, (wl (i := 303) rfl rfl), (wp (i := 7) rfl)⟩
theorem fl_Tru_106 : Fl RT 106 0 2 := ⟨"DecimalTruth$Decimal", TF0, 3, rfl, by decide, rfl, tu_0, Or.inr ⟨"DecimalTruth", (wn (i := 39) rfl rfl)⟩⟩
theorem cl_Tru_109 : ClV RT 109 ky_Dec_cutBehind 1 := ⟨⟨Or.inl (wl (i := 305) rfl rfl), (wl (i := 2) rfl rfl), by decide, by decide, by decide +kernel⟩, (wl (i := 306) rfl rfl), (wl (i := 307) rfl rfl)⟩
theorem cl_Tru_112 : ClV RT 112 ky_Tru_nearestSize 0 := ⟨⟨Or.inl (wl (i := 338) rfl rfl), (wl (i := 1) rfl rfl), by decide, by decide, by decide +kernel⟩, (wl (i := 340) rfl rfl), (wp (i := 9) rfl)⟩
set_option maxRecDepth 10000 in
theorem wk_Tru_121 : Cond.constantLong RT 121 (zj (-9223372036854775808)) ∈ al := wl (i := 399) rfl rfl
set_option maxRecDepth 10000 in
theorem cl_Tru_123 : ClV RT 123 ky_Tru_leastDigitsFor 1 := ⟨⟨Or.inl (wl (i := 407) rfl rfl), (wl (i := 1) rfl rfl), by decide, by decide, by decide +kernel⟩, (wl (i := 409) rfl rfl), (wp (i := 12) rfl)⟩
theorem fl_Tru_128 : Fl RT 128 0 0 := ⟨"DecimalTruth$Decimal", TF0, 3, rfl, by decide, rfl, tu_0, Or.inr ⟨"DecimalTruth", (wn (i := 33) rfl rfl)⟩⟩
theorem cl_Tru_134 : ClV RT 134 ky_Dec_append 1 := ⟨⟨Or.inl (wl (i := 280) rfl rfl), (wl (i := 2) rfl rfl), by decide, by decide, by decide +kernel⟩, (wl (i := 236) rfl rfl), (wl (i := 237) rfl rfl)⟩
theorem cl_Tru_137 : ClV RT 137 ky_Grp_load 1 := ⟨⟨Or.inl (wl (i := 342) rfl rfl), (wl (i := 3) rfl rfl), by decide, by decide, by decide +kernel⟩, (wl (i := 343) rfl rfl), (wl (i := 344) rfl rfl)⟩
theorem cl_Tru_141 : ClV RT 141 ky_Wrd_load 1 := ⟨⟨Or.inl (wl (i := 348) rfl rfl), (wl (i := 4) rfl rfl), by decide, by decide, by decide +kernel⟩, (wl (i := 349) rfl rfl), (wl (i := 350) rfl rfl)⟩
set_option maxRecDepth 10000 in
theorem cl_Tru_144 : ClV RT 144 ky_Wrd_roundedSize 0 := ⟨⟨Or.inl (wl (i := 363) rfl rfl), (wl (i := 4) rfl rfl), by decide, by decide, by decide +kernel⟩, (wl (i := 364) rfl rfl), (wl (i := 365) rfl rfl)⟩
set_option maxRecDepth 10000 in
theorem cl_Tru_147 : ClV RT 147 ky_Tru_spellMiddleAbove 2 := ⟨⟨Or.inl (wl (i := 411) rfl rfl), (wl (i := 1) rfl rfl), by decide, by decide, by decide +kernel⟩, (wl (i := 413) rfl rfl), (wp (i := 13) rfl)⟩
set_option maxRecDepth 10000 in
theorem cl_Tru_151 : ClV RT 151 ky_Tru_holdsWith 2 := ⟨⟨Or.inl (wl (i := 416) rfl rfl), (wl (i := 1) rfl rfl), by decide, by decide, by decide +kernel⟩, (wl (i := 418) rfl rfl), (wp (i := 14) rfl)⟩
set_option maxRecDepth 10000 in
theorem cl_Tru_155 : ClV RT 155 ky_Dec_goesUpBehind 1 := ⟨⟨Or.inl (wl (i := 420) rfl rfl), (wl (i := 2) rfl rfl), by decide, by decide, by decide +kernel⟩, (wl (i := 311) rfl rfl), (wl (i := 312) rfl rfl)⟩
set_option maxRecDepth 10000 in
theorem cl_Tru_158 : ClV RT 158 ky_Dec_beStartOf 2 := ⟨⟨Or.inl (wl (i := 421) rfl rfl), (wl (i := 2) rfl rfl), by decide, by decide, by decide +kernel⟩, (wl (i := 422) rfl rfl), (wl (i := 423) rfl rfl)⟩
set_option maxRecDepth 10000 in
theorem cl_Tru_162 : ClV RT 162 ky_Dec_settle 1 := ⟨⟨Or.inl (wl (i := 428) rfl rfl), (wl (i := 2) rfl rfl), by decide, by decide, by decide +kernel⟩, (wl (i := 315) rfl rfl), (wl (i := 316) rfl rfl)⟩
set_option maxRecDepth 10000 in
theorem cl_Tru_166 : ClV RT 166 ky_Dec_against 1 := ⟨⟨Or.inl (wl (i := 429) rfl rfl), (wl (i := 2) rfl rfl), by decide, by decide, by decide +kernel⟩, (wl (i := 430) rfl rfl), (wl (i := 431) rfl rfl)⟩
set_option maxRecDepth 10000 in
theorem wk_Tru_170 : Cond.constantLong RT 170 (zj 2) ∈ al := wl (i := 415) rfl rfl
theorem cl_Tru_172 : ClV RT 172 ky_Grp_beProduct 2 := ⟨⟨Or.inl (wl (i := 201) rfl rfl), (wl (i := 3) rfl rfl), by decide, by decide, by decide +kernel⟩, (wl (i := 202) rfl rfl), (wl (i := 203) rfl rfl)⟩
theorem cl_Tru_176 : ClV RT 176 ky_Dec_read 1 := ⟨⟨Or.inl (wl (i := 221) rfl rfl), (wl (i := 2) rfl rfl), by decide, by decide, by decide +kernel⟩, (wl (i := 222) rfl rfl), (wl (i := 223) rfl rfl)⟩
theorem wk_Tru_179 : Cond.constantLong RT 179 (zj 4503599627370495) ∈ al := wl (i := 190) rfl rfl
theorem cl_Tru_181 : Cond.methodLink RT 181 Lib.Math.max.name ∈ al := (wl (i := 194) rfl rfl)
set_option maxRecDepth 10000 in
theorem fl_Mod_9 : Fl RM 9 4 2 := ⟨"DecimalTruthModel", TF4, 19, rfl, by decide, rfl, tu_4, Or.inl (wl (i := 461) rfl rfl)⟩
set_option maxRecDepth 10000 in
theorem fl_Mod_13 : Fl RM 13 4 7 := ⟨"DecimalTruthModel", TF4, 19, rfl, by decide, rfl, tu_4, Or.inl (wl (i := 466) rfl rfl)⟩
set_option maxRecDepth 10000 in
theorem fl_Mod_16 : Fl RM 16 4 11 := ⟨"DecimalTruthModel", TF4, 19, rfl, by decide, rfl, tu_4, Or.inl (wl (i := 470) rfl rfl)⟩
set_option maxRecDepth 10000 in
theorem fl_Mod_19 : Fl RM 19 4 12 := ⟨"DecimalTruthModel", TF4, 19, rfl, by decide, rfl, tu_4, Or.inl (wl (i := 471) rfl rfl)⟩
set_option maxRecDepth 10000 in
theorem fl_Mod_22 : Fl RM 22 4 13 := ⟨"DecimalTruthModel", TF4, 19, rfl, by decide, rfl, tu_4, Or.inl (wl (i := 472) rfl rfl)⟩
set_option maxRecDepth 10000 in
theorem fl_Mod_25 : Fl RM 25 4 14 := ⟨"DecimalTruthModel", TF4, 19, rfl, by decide, rfl, tu_4, Or.inl (wl (i := 473) rfl rfl)⟩
set_option maxRecDepth 10000 in
theorem fl_Mod_28 : Fl RM 28 4 0 := ⟨"DecimalTruthModel", TF4, 19, rfl, by decide, rfl, tu_4, Or.inl (wl (i := 459) rfl rfl)⟩
set_option maxRecDepth 10000 in
theorem cl_Mod_32 : ClV RM 32 ky_Mod_fails 2 := ⟨⟨Or.inl (wl (i := 525) rfl rfl), (wl (i := 5) rfl rfl), by decide, by decide, by decide +kernel⟩, (wl (i := 527) rfl rfl), (wp (i := 15) rfl)⟩
set_option maxRecDepth 10000 in
theorem wk_Mod_36 : Cond.constantLong RM 36 (zj 4503599627370495) ∈ al := wl (i := 529) rfl rfl
set_option maxRecDepth 10000 in
theorem wk_Mod_38 : Cond.constantLong RM 38 (zj 4503599627370496) ∈ al := wl (i := 530) rfl rfl
set_option maxRecDepth 10000 in
theorem fl_Mod_40 : Fl RM 40 4 8 := ⟨"DecimalTruthModel", TF4, 19, rfl, by decide, rfl, tu_4, Or.inl (wl (i := 467) rfl rfl)⟩
set_option maxRecDepth 10000 in
theorem fl_Mod_43 : Fl RM 43 4 9 := ⟨"DecimalTruthModel", TF4, 19, rfl, by decide, rfl, tu_4, Or.inl (wl (i := 468) rfl rfl)⟩
set_option maxRecDepth 10000 in
theorem wk_Mod_46 : Cond.constantLong RM 46 (zj 10) ∈ al := wl (i := 531) rfl rfl
set_option maxRecDepth 10000 in
theorem cl_Mod_48 : ClV RM 48 ky_Mod_twice 0 := ⟨⟨Or.inl (wl (i := 532) rfl rfl), (wl (i := 5) rfl rfl), by decide, by decide, by decide +kernel⟩, (wl (i := 534) rfl rfl), (wp (i := 16) rfl)⟩
set_option maxRecDepth 10000 in
theorem cl_Mod_51 : ClV RM 51 ky_Mod_half 0 := ⟨⟨Or.inl (wl (i := 536) rfl rfl), (wl (i := 5) rfl rfl), by decide, by decide, by decide +kernel⟩, (wl (i := 538) rfl rfl), (wp (i := 17) rfl)⟩
set_option maxRecDepth 10000 in
theorem fl_Mod_54 : Fl RM 54 4 1 := ⟨"DecimalTruthModel", TF4, 19, rfl, by decide, rfl, tu_4, Or.inl (wl (i := 460) rfl rfl)⟩
set_option maxRecDepth 10000 in
theorem cl_Mod_58 : ClV RM 58 ky_Mod_keep 0 := ⟨⟨Or.inl (wl (i := 540) rfl rfl), (wl (i := 5) rfl rfl), by decide, by decide, by decide +kernel⟩, (wl (i := 542) rfl rfl), (wp (i := 18) rfl)⟩
set_option maxRecDepth 10000 in
theorem fl_Mod_61 : Fl RM 61 4 3 := ⟨"DecimalTruthModel", TF4, 19, rfl, by decide, rfl, tu_4, Or.inl (wl (i := 462) rfl rfl)⟩
set_option maxRecDepth 10000 in
theorem fl_Mod_64 : Fl RM 64 4 4 := ⟨"DecimalTruthModel", TF4, 19, rfl, by decide, rfl, tu_4, Or.inl (wl (i := 463) rfl rfl)⟩
set_option maxRecDepth 10000 in
theorem fl_Mod_67 : Fl RM 67 4 5 := ⟨"DecimalTruthModel", TF4, 19, rfl, by decide, rfl, tu_4, Or.inl (wl (i := 464) rfl rfl)⟩
set_option maxRecDepth 10000 in
theorem fl_Mod_70 : Fl RM 70 4 6 := ⟨"DecimalTruthModel", TF4, 19, rfl, by decide, rfl, tu_4, Or.inl (wl (i := 465) rfl rfl)⟩
set_option maxRecDepth 10000 in
theorem wk_Mod_73 : Cond.constantLong RM 73 (zj 9) ∈ al := wl (i := 548) rfl rfl
set_option maxRecDepth 10000 in
theorem cl_Mod_75 : ClS RM 75 ky_Mod_in 3 := ⟨⟨Or.inl (wl (i := 549) rfl rfl), (wl (i := 5) rfl rfl), by decide, by decide, by decide +kernel⟩, (wl (i := 550) rfl rfl)⟩
set_option maxRecDepth 10000 in
theorem wk_Mod_79 : Cond.constantLong RM 79 (zj (-1000)) ∈ al := wl (i := 556) rfl rfl
set_option maxRecDepth 10000 in
theorem wk_Mod_81 : Cond.constantLong RM 81 (zj 1000) ∈ al := wl (i := 557) rfl rfl
set_option maxRecDepth 10000 in
theorem cl_Mod_83 : ClV RM 83 ky_Mod_nothing 0 := ⟨⟨Or.inl (wl (i := 568) rfl rfl), (wl (i := 5) rfl rfl), by decide, by decide, by decide +kernel⟩, (wl (i := 570) rfl rfl), (wp (i := 20) rfl)⟩
set_option maxRecDepth 10000 in
theorem wk_Mod_86 : Cond.constantLong RM 86 (zj 800) ∈ al := wl (i := 562) rfl rfl
set_option maxRecDepth 10000 in
theorem wk_Mod_88 : Cond.constantLong RM 88 (zj (-1)) ∈ al := wl (i := 563) rfl rfl
set_option maxRecDepth 10000 in
theorem cl_Mod_90 : ClV RM 90 ky_Mod_cut 1 := ⟨⟨Or.inl (wl (i := 564) rfl rfl), (wl (i := 5) rfl rfl), by decide, by decide, by decide +kernel⟩, (wl (i := 566) rfl rfl), (wp (i := 19) rfl)⟩
set_option maxRecDepth 10000 in
theorem wk_Mod_94 : Cond.constantLong RM 94 (zj 2000) ∈ al := wl (i := 576) rfl rfl
set_option maxRecDepth 10000 in
theorem fl_Mod_96 : Fl RM 96 4 10 := ⟨"DecimalTruthModel", TF4, 19, rfl, by decide, rfl, tu_4, Or.inl (wl (i := 469) rfl rfl)⟩
set_option maxRecDepth 10000 in
theorem cl_Mod_100 : ClV RM 100 ky_Mod_isNothing 2 := ⟨⟨Or.inl (wl (i := 585) rfl rfl), (wl (i := 5) rfl rfl), by decide, by decide, by decide +kernel⟩, (wl (i := 587) rfl rfl), (wp (i := 22) rfl)⟩
set_option maxRecDepth 10000 in
theorem cl_Mod_104 : ClV RM 104 ky_Mod_put 4 := ⟨⟨Or.inl (wl (i := 589) rfl rfl), (wl (i := 5) rfl rfl), by decide, by decide, by decide +kernel⟩, (wl (i := 591) rfl rfl), (wp (i := 23) rfl)⟩
set_option maxRecDepth 10000 in
theorem wk_Mod_108 : Cond.constantLong RM 108 (zj 9007199254740992) ∈ al := wl (i := 593) rfl rfl
set_option maxRecDepth 10000 in
theorem cl_Mod_110 : ClV RM 110 ky_Mod_finds 1 := ⟨⟨Or.inl (wl (i := 581) rfl rfl), (wl (i := 5) rfl rfl), by decide, by decide, by decide +kernel⟩, (wl (i := 583) rfl rfl), (wp (i := 21) rfl)⟩
set_option maxRecDepth 10000 in
theorem wk_Mod_114 : Cond.constantLong RM 114 (zj (-9223372036854775808)) ∈ al := wl (i := 594) rfl rfl
set_option maxRecDepth 10000 in
theorem wk_Mod_116 : Cond.constantLong RM 116 (zj 2) ∈ al := wl (i := 599) rfl rfl
set_option maxRecDepth 10000 in
theorem cl_Mod_118 : ClV RM 118 ky_Mod_exactly 2 := ⟨⟨Or.inl (wl (i := 600) rfl rfl), (wl (i := 5) rfl rfl), by decide, by decide, by decide +kernel⟩, (wl (i := 602) rfl rfl), (wp (i := 24) rfl)⟩
set_option maxRecDepth 10000 in
theorem fl_Mod_122 : Fl RM 122 4 17 := ⟨"DecimalTruthModel", TF4, 19, rfl, by decide, rfl, tu_4, Or.inl (wl (i := 476) rfl rfl)⟩
set_option maxRecDepth 10000 in
theorem fl_Mod_125 : Fl RM 125 4 18 := ⟨"DecimalTruthModel", TF4, 19, rfl, by decide, rfl, tu_4, Or.inl (wl (i := 477) rfl rfl)⟩
set_option maxRecDepth 10000 in
theorem wk_Mod_128 : Cond.constantLong RM 128 (zj 4) ∈ al := wl (i := 604) rfl rfl
set_option maxRecDepth 10000 in
theorem fl_Mod_130 : Fl RM 130 4 15 := ⟨"DecimalTruthModel", TF4, 19, rfl, by decide, rfl, tu_4, Or.inl (wl (i := 474) rfl rfl)⟩
set_option maxRecDepth 10000 in
theorem fl_Mod_133 : Fl RM 133 4 16 := ⟨"DecimalTruthModel", TF4, 19, rfl, by decide, rfl, tu_4, Or.inl (wl (i := 475) rfl rfl)⟩
set_option maxRecDepth 10000 in
theorem cl_Mod_136 : ClV RM 136 ky_Mod_compare 3 := ⟨⟨Or.inl (wl (i := 605) rfl rfl), (wl (i := 5) rfl rfl), by decide, by decide, by decide +kernel⟩, (wl (i := 607) rfl rfl), (wp (i := 25) rfl)⟩
theorem fl_Dec_9 : Fl RD 9 0 0 := ⟨"DecimalTruth$Decimal", TF0, 3, rfl, by decide, rfl, tu_0, Or.inl (wl (i := 31) rfl rfl)⟩
theorem fl_Dec_15 : Fl RD 15 0 1 := ⟨"DecimalTruth$Decimal", TF0, 3, rfl, by decide, rfl, tu_0, Or.inl (wl (i := 34) rfl rfl)⟩
theorem fl_Dec_19 : Fl RD 19 0 2 := ⟨"DecimalTruth$Decimal", TF0, 3, rfl, by decide, rfl, tu_0, Or.inl (wl (i := 37) rfl rfl)⟩
set_option maxRecDepth 10000 in
theorem cl_Dec_22 : Cond.methodLink RD 22 arraycopyName ∈ al := (wl (i := 425) rfl rfl)
theorem cl_Dec_28 : ClV RD 28 ky_Dec_beZero 0 := ⟨⟨Or.inl (wl (i := 309) rfl rfl), (wl (i := 2) rfl rfl), by decide, by decide, by decide +kernel⟩, (wl (i := 290) rfl rfl), (wl (i := 291) rfl rfl)⟩
theorem cl_Dec_31 : ClV RD 31 ky_Dec_goesUpBehind 1 := ⟨⟨Or.inl (wl (i := 310) rfl rfl), (wl (i := 2) rfl rfl), by decide, by decide, by decide +kernel⟩, (wl (i := 311) rfl rfl), (wl (i := 312) rfl rfl)⟩
theorem cl_Dec_35 : ClV RD 35 ky_Dec_settle 1 := ⟨⟨Or.inl (wl (i := 314) rfl rfl), (wl (i := 2) rfl rfl), by decide, by decide, by decide +kernel⟩, (wl (i := 315) rfl rfl), (wl (i := 316) rfl rfl)⟩
theorem cl_Dec_39 : ClV RD 39 ky_Dec_goUp 0 := ⟨⟨Or.inl (wl (i := 318) rfl rfl), (wl (i := 2) rfl rfl), by decide, by decide, by decide +kernel⟩, (wl (i := 320) rfl rfl), (wp (i := 8) rfl)⟩
theorem cl_Dec_42 : ClV RD 42 ky_Dec_dropZerosAtEnd 0 := ⟨⟨Or.inl (wl (i := 239) rfl rfl), (wl (i := 2) rfl rfl), by decide, by decide, by decide +kernel⟩, (wl (i := 241) rfl rfl), (wp (i := 3) rfl)⟩
set_option maxRecDepth 10000 in
theorem cl_Dec_45 : ClS RD 45 ky_JInt_compare 2 := ⟨⟨Or.inl (wl (i := 433) rfl rfl), (wl (i := 14) rfl rfl), by decide, by decide, by decide +kernel⟩, (wl (i := 434) rfl rfl)⟩
set_option maxRecDepth 10000 in
theorem cl_Dec_51 : Cond.methodLink RD 51 Lib.Math.min.name ∈ al := (wl (i := 436) rfl rfl)
theorem cl_Dec_56 : ClV RD 56 ky_Grp_placeOfFirst 0 := ⟨⟨Or.inl (wl (i := 225) rfl rfl), (wl (i := 3) rfl rfl), by decide, by decide, by decide +kernel⟩, (wl (i := 226) rfl rfl), (wl (i := 227) rfl rfl)⟩
theorem fl_Dec_62 : Fl RD 62 1 1 := ⟨"DecimalTruth$Groups", TF1, 3, rfl, by decide, rfl, tu_1, Or.inr ⟨"DecimalTruth", (wn (i := 57) rfl rfl)⟩⟩
theorem fl_Dec_65 : Fl RD 65 1 2 := ⟨"DecimalTruth$Groups", TF1, 3, rfl, by decide, rfl, tu_1, Or.inr ⟨"DecimalTruth", (wn (i := 59) rfl rfl)⟩⟩
theorem fl_Dec_68 : Fl RD 68 1 0 := ⟨"DecimalTruth$Groups", TF1, 3, rfl, by decide, rfl, tu_1, Or.inr ⟨"DecimalTruth", (wn (i := 55) rfl rfl)⟩⟩
theorem cl_Dec_72 : ClV RD 72 ky_Dec_readGroup 1 := ⟨⟨Or.inl (wl (i := 229) rfl rfl), (wl (i := 2) rfl rfl), by decide, by decide, by decide +kernel⟩, (wl (i := 231) rfl rfl), (wp (i := 2) rfl)⟩
theorem wk_Dec_76 : Cond.constantLong RD 76 (zj 100000000) ∈ al := wl (i := 233) rfl rfl
theorem wk_Dec_78 : Cond.constantLong RD 78 (zj 10) ∈ al := wl (i := 234) rfl rfl
theorem cl_Dec_80 : ClV RD 80 ky_Dec_append 1 := ⟨⟨Or.inl (wl (i := 235) rfl rfl), (wl (i := 2) rfl rfl), by decide, by decide, by decide +kernel⟩, (wl (i := 236) rfl rfl), (wl (i := 237) rfl rfl)⟩
theorem fl_Grp_11 : Fl RG 11 1 0 := ⟨"DecimalTruth$Groups", TF1, 3, rfl, by decide, rfl, tu_1, Or.inl (wl (i := 54) rfl rfl)⟩
theorem fl_Grp_15 : Fl RG 15 1 1 := ⟨"DecimalTruth$Groups", TF1, 3, rfl, by decide, rfl, tu_1, Or.inl (wl (i := 56) rfl rfl)⟩
theorem fl_Grp_19 : Fl RG 19 1 2 := ⟨"DecimalTruth$Groups", TF1, 3, rfl, by decide, rfl, tu_1, Or.inl (wl (i := 58) rfl rfl)⟩
theorem cl_Grp_22 : ClS RG 22 ky_JArr_fill 2 := ⟨⟨Or.inl (wl (i := 205) rfl rfl), (wl (i := 11) rfl rfl), by decide, by decide, by decide +kernel⟩, (wl (i := 206) rfl rfl)⟩
theorem wk_Grp_28 : Cond.constantLong RG 28 (zj 1000000000) ∈ al := wl (i := 208) rfl rfl
theorem cl_Grp_30 : Cond.methodLink RG 30 Lib.Math.min.name ∈ al := (wl (i := 209) rfl rfl)
theorem cl_Grp_36 : ClV RG 36 ky_Grp_multiply 2 := ⟨⟨Or.inl (wl (i := 212) rfl rfl), (wl (i := 3) rfl rfl), by decide, by decide, by decide +kernel⟩, (wl (i := 213) rfl rfl), (wl (i := 214) rfl rfl)⟩
theorem cl_Grp_40 : ClV RG 40 ky_Grp_divide 2 := ⟨⟨Or.inl (wl (i := 216) rfl rfl), (wl (i := 3) rfl rfl), by decide, by decide, by decide +kernel⟩, (wl (i := 217) rfl rfl), (wl (i := 218) rfl rfl)⟩
theorem fl_Grp_43 : Fl RG 43 0 2 := ⟨"DecimalTruth$Decimal", TF0, 3, rfl, by decide, rfl, tu_0, Or.inr ⟨"DecimalTruth", (wn (i := 38) rfl rfl)⟩⟩
theorem fl_Grp_48 : Fl RG 48 0 1 := ⟨"DecimalTruth$Decimal", TF0, 3, rfl, by decide, rfl, tu_0, Or.inr ⟨"DecimalTruth", (wn (i := 36) rfl rfl)⟩⟩
theorem fl_Grp_51 : Fl RG 51 0 0 := ⟨"DecimalTruth$Decimal", TF0, 3, rfl, by decide, rfl, tu_0, Or.inr ⟨"DecimalTruth", (wn (i := 32) rfl rfl)⟩⟩
theorem cl_Grp_58 : Cond.methodLink RG 58 Lib.Math.max.name ∈ al := (wl (i := 220) rfl rfl)
theorem fl_Wrd_11 : Fl RW 11 2 0 := ⟨"DecimalTruth$Words", TF2, 2, rfl, by decide, rfl, tu_2, Or.inl (wl (i := 74) rfl rfl)⟩
set_option maxRecDepth 10000 in
theorem cl_Wrd_15 : ClS RW 15 ky_JArr_fill 2 := ⟨⟨Or.inl (wl (i := 352) rfl rfl), (wl (i := 11) rfl rfl), by decide, by decide, by decide +kernel⟩, (wl (i := 206) rfl rfl)⟩
set_option maxRecDepth 10000 in
theorem cl_Wrd_23 : ClV RW 23 ky_Grp_divide 2 := ⟨⟨Or.inl (wl (i := 353) rfl rfl), (wl (i := 3) rfl rfl), by decide, by decide, by decide +kernel⟩, (wl (i := 217) rfl rfl), (wl (i := 218) rfl rfl)⟩
set_option maxRecDepth 10000 in
theorem cl_Wrd_27 : ClV RW 27 ky_Wrd_firstThatIsNotZero 1 := ⟨⟨Or.inl (wl (i := 354) rfl rfl), (wl (i := 4) rfl rfl), by decide, by decide, by decide +kernel⟩, (wl (i := 356) rfl rfl), (wp (i := 10) rfl)⟩
set_option maxRecDepth 10000 in
theorem cl_Wrd_31 : ClV RW 31 ky_Grp_multiply 2 := ⟨⟨Or.inl (wl (i := 358) rfl rfl), (wl (i := 3) rfl rfl), by decide, by decide, by decide +kernel⟩, (wl (i := 213) rfl rfl), (wl (i := 214) rfl rfl)⟩
set_option maxRecDepth 10000 in
theorem cl_Wrd_34 : ClV RW 34 ky_Grp_hasSomethingBehindPoint 0 := ⟨⟨Or.inl (wl (i := 359) rfl rfl), (wl (i := 3) rfl rfl), by decide, by decide, by decide +kernel⟩, (wl (i := 360) rfl rfl), (wl (i := 361) rfl rfl)⟩
theorem fl_Wrd_38 : Fl RW 38 2 1 := ⟨"DecimalTruth$Words", TF2, 2, rfl, by decide, rfl, tu_2, Or.inl (wl (i := 75) rfl rfl)⟩
set_option maxRecDepth 10000 in
theorem cl_Wrd_42 : ClS RW 42 ky_JLon_numberOfLeadingZeros 1 := ⟨⟨Or.inl (wl (i := 367) rfl rfl), (wl (i := 13) rfl rfl), by decide, by decide, by decide +kernel⟩, (wl (i := 368) rfl rfl)⟩
set_option maxRecDepth 10000 in
theorem wk_Wrd_48 : Cond.constantLong RW 48 (zj 9218868437227405312) ∈ al := wl (i := 374) rfl rfl
set_option maxRecDepth 10000 in
theorem cl_Wrd_50 : ClV RW 50 ky_Wrd_isMoreFrom 1 := ⟨⟨Or.inl (wl (i := 375) rfl rfl), (wl (i := 4) rfl rfl), by decide, by decide, by decide +kernel⟩, (wl (i := 377) rfl rfl), (wp (i := 11) rfl)⟩
set_option maxRecDepth 10000 in
theorem cl_Wrd_54 : ClS RW 54 ky_Wrd_roundHead 3 := ⟨⟨Or.inl (wl (i := 379) rfl rfl), (wl (i := 4) rfl rfl), by decide, by decide, by decide +kernel⟩, (wl (i := 380) rfl rfl)⟩
set_option maxRecDepth 10000 in
theorem cl_Wrd_58 : Cond.methodLink RW 58 Lib.Math.max.name ∈ al := (wl (i := 382) rfl rfl)
theorem cl_Law_7 : ClV RL 7 ky_Tru_set 1 := ⟨⟨Or.inl (wl (i := 113) rfl rfl), (wl (i := 1) rfl rfl), by decide, by decide, by decide +kernel⟩, (wl (i := 114) rfl rfl), (wl (i := 115) rfl rfl)⟩
theorem cl_Law_15 : ClV RL 15 ky_Tru_digit 1 := ⟨⟨Or.inl (wl (i := 251) rfl rfl), (wl (i := 1) rfl rfl), by decide, by decide, by decide +kernel⟩, (wl (i := 252) rfl rfl), (wl (i := 253) rfl rfl)⟩
theorem cl_Law_21 : ClV RL 21 ky_Tru_clear 2 := ⟨⟨Or.inl (wl (i := 284) rfl rfl), (wl (i := 1) rfl rfl), by decide, by decide, by decide +kernel⟩, (wl (i := 285) rfl rfl), (wl (i := 286) rfl rfl)⟩
theorem cl_Law_25 : ClV RL 25 ky_Tru_round 1 := ⟨⟨Or.inl (wl (i := 296) rfl rfl), (wl (i := 1) rfl rfl), by decide, by decide, by decide +kernel⟩, (wl (i := 297) rfl rfl), (wl (i := 298) rfl rfl)⟩
theorem cl_Law_28 : ClV RL 28 ky_Tru_places 1 := ⟨⟨Or.inl (wl (i := 325) rfl rfl), (wl (i := 1) rfl rfl), by decide, by decide, by decide +kernel⟩, (wl (i := 326) rfl rfl), (wl (i := 327) rfl rfl)⟩
theorem cl_Law_31 : ClV RL 31 ky_Tru_nearest 0 := ⟨⟨Or.inl (wl (i := 334) rfl rfl), (wl (i := 1) rfl rfl), by decide, by decide, by decide +kernel⟩, (wl (i := 335) rfl rfl), (wl (i := 336) rfl rfl)⟩
set_option maxRecDepth 10000 in
theorem cl_Law_37 : ClV RL 37 ky_Tru_enough 0 := ⟨⟨Or.inl (wl (i := 403) rfl rfl), (wl (i := 1) rfl rfl), by decide, by decide, by decide +kernel⟩, (wl (i := 404) rfl rfl), (wl (i := 405) rfl rfl)⟩
set_option maxRecDepth 10000 in
theorem cl_Law_41 : ClV RL 41 ky_Tru_look 1 := ⟨⟨Or.inl (wl (i := 440) rfl rfl), (wl (i := 1) rfl rfl), by decide, by decide, by decide +kernel⟩, (wl (i := 441) rfl rfl), (wl (i := 442) rfl rfl)⟩
set_option maxRecDepth 10000 in
theorem cl_Law_44 : ClV RL 44 ky_Tru_count 1 := ⟨⟨Or.inl (wl (i := 448) rfl rfl), (wl (i := 1) rfl rfl), by decide, by decide, by decide +kernel⟩, (wl (i := 449) rfl rfl), (wl (i := 450) rfl rfl)⟩
theorem wm_min_c : Cond.code Lib.Math.min.name Lib.Math.min.code 2 (some .int) ∈ al := wl (i := 211) rfl rfl
theorem wm_min_s : Cond.static Lib.Math.min.name ∈ al := (wl (i := 210) rfl rfl)
theorem wm_max_c : Cond.code Lib.Math.max.name Lib.Math.max.code 2 (some .int) ∈ al := wl (i := 196) rfl rfl
theorem wm_max_s : Cond.static Lib.Math.max.name ∈ al := (wl (i := 195) rfl rfl)
theorem wm_init : Cond.initialized "java/lang/Math" ∈ al := (wl (i := 10) rfl rfl)
theorem wa_init : Cond.initialized "java/lang/System" ∈ al := (wl (i := 16) rfl rfl)
set_option maxRecDepth 10000 in
theorem wa_nat : Cond.native arraycopyName ∈ al := (wl (i := 427) rfl rfl)
set_option maxRecDepth 10000 in
theorem wa_sta : Cond.static arraycopyName ∈ al := (wl (i := 426) rfl rfl)
end
