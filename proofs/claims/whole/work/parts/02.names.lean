/-! names of the classes, fields, methods; the tables' words in two lists -/
def isN : Cond → Bool
  | .fieldLinkNest _ _ _ _ _ _ => true
  | .methodLinkNest _ _ _ _ => true
  | _ => false
def al : List Cond := lw_tbl.filter goodWord
def nl : List Cond := lw_tbl.filter isN
theorem wl {i : Nat} {w : Cond} (h : tables_1[i]? = some w) (hg : goodWord w = true) : w ∈ al := List.mem_filter.mpr ⟨List.mem_append_right _ (List.mem_of_getElem? h), hg⟩
theorem wn {i : Nat} {w : Cond} (h : tables_1[i]? = some w) (hg : isN w = true) : w ∈ nl := List.mem_filter.mpr ⟨List.mem_append_right _ (List.mem_of_getElem? h), hg⟩
theorem wp {i : Nat} {q : MethodName × Nat} (h : lw_privs[i]? = some q) : Cond.selects q.1.cls q.1 q.1 ∈ al := List.mem_filter.mpr ⟨List.mem_append_left _ (List.mem_map.mpr ⟨q, List.mem_of_getElem? h, rfl⟩), rfl⟩
abbrev RD : String := "DecimalTruth$Decimal"
abbrev RG : String := "DecimalTruth$Groups"
abbrev RW : String := "DecimalTruth$Words"
abbrev RT : String := "DecimalTruth"
abbrev RM : String := "DecimalTruthModel"
abbrev RL : String := "DecimalTruthLaw"
def TF0 : u_T := fun k => match k with
  | 0 => ("DecimalTruth$Decimal", "digits", "[I", true)
  | 1 => ("DecimalTruth$Decimal", "length", "I", false)
  | _ => ("DecimalTruth$Decimal", "place", "I", false)
def ty0_ : Nat → FieldType := fun k => match k with
  | 0 => .array .int
  | 1 => .int
  | _ => .int
theorem tn_0 : ∀ a, a < 3 → ∀ b, b < 3 → a ≠ b → (TF0 a).2.1 ≠ (TF0 b).2.1 := by decide +kernel
theorem tt_0 : ∀ k, k < 3 → parseFieldDescriptor (TF0 k).2.2.1 = some (ty0_ k) := by decide +kernel
theorem tu_0 : ∀ w ∈ u_ws "DecimalTruth$Decimal" TF0 3, w ∈ al := by
  have h : (u_ws "DecimalTruth$Decimal" TF0 3).all (fun w => decide (w ∈ tables_1) && goodWord w) = true := by decide +kernel
  intro w hw
  have h2 := List.all_eq_true.mp h w hw
  rw [Bool.and_eq_true, decide_eq_true_iff] at h2
  exact List.mem_filter.mpr ⟨List.mem_append_right _ h2.1, h2.2⟩
def TF1 : u_T := fun k => match k with
  | 0 => ("DecimalTruth$Groups", "rows", "[J", true)
  | 1 => ("DecimalTruth$Groups", "first", "I", false)
  | _ => ("DecimalTruth$Groups", "end", "I", false)
def ty1_ : Nat → FieldType := fun k => match k with
  | 0 => .array .long
  | 1 => .int
  | _ => .int
theorem tn_1 : ∀ a, a < 3 → ∀ b, b < 3 → a ≠ b → (TF1 a).2.1 ≠ (TF1 b).2.1 := by decide +kernel
theorem tt_1 : ∀ k, k < 3 → parseFieldDescriptor (TF1 k).2.2.1 = some (ty1_ k) := by decide +kernel
theorem tu_1 : ∀ w ∈ u_ws "DecimalTruth$Groups" TF1 3, w ∈ al := by
  have h : (u_ws "DecimalTruth$Groups" TF1 3).all (fun w => decide (w ∈ tables_1) && goodWord w) = true := by decide +kernel
  intro w hw
  have h2 := List.all_eq_true.mp h w hw
  rw [Bool.and_eq_true, decide_eq_true_iff] at h2
  exact List.mem_filter.mpr ⟨List.mem_append_right _ h2.1, h2.2⟩
def TF2 : u_T := fun k => match k with
  | 0 => ("DecimalTruth$Words", "rows", "[J", true)
  | _ => ("DecimalTruth$Words", "hasMore", "Z", false)
def ty2_ : Nat → FieldType := fun k => match k with
  | 0 => .array .long
  | _ => .boolean
theorem tn_2 : ∀ a, a < 2 → ∀ b, b < 2 → a ≠ b → (TF2 a).2.1 ≠ (TF2 b).2.1 := by decide +kernel
theorem tt_2 : ∀ k, k < 2 → parseFieldDescriptor (TF2 k).2.2.1 = some (ty2_ k) := by decide +kernel
theorem tu_2 : ∀ w ∈ u_ws "DecimalTruth$Words" TF2 2, w ∈ al := by
  have h : (u_ws "DecimalTruth$Words" TF2 2).all (fun w => decide (w ∈ tables_1) && goodWord w) = true := by decide +kernel
  intro w hw
  have h2 := List.all_eq_true.mp h w hw
  rw [Bool.and_eq_true, decide_eq_true_iff] at h2
  exact List.mem_filter.mpr ⟨List.mem_append_right _ h2.1, h2.2⟩
def TF3 : u_T := fun k => match k with
  | 0 => ("DecimalTruth", "kept", "LDecimalTruth$Decimal;", true)
  | 1 => ("DecimalTruth", "minus", "Z", false)
  | 2 => ("DecimalTruth", "zerosInMind", "I", false)
  | 3 => ("DecimalTruth", "point", "I", false)
  | 4 => ("DecimalTruth", "groups", "LDecimalTruth$Groups;", true)
  | 5 => ("DecimalTruth", "words", "LDecimalTruth$Words;", true)
  | 6 => ("DecimalTruth", "trial", "LDecimalTruth$Decimal;", true)
  | 7 => ("DecimalTruth", "low", "LDecimalTruth$Decimal;", true)
  | _ => ("DecimalTruth", "high", "LDecimalTruth$Decimal;", true)
def ty3_ : Nat → FieldType := fun k => match k with
  | 0 => .object "DecimalTruth$Decimal"
  | 1 => .boolean
  | 2 => .int
  | 3 => .int
  | 4 => .object "DecimalTruth$Groups"
  | 5 => .object "DecimalTruth$Words"
  | 6 => .object "DecimalTruth$Decimal"
  | 7 => .object "DecimalTruth$Decimal"
  | _ => .object "DecimalTruth$Decimal"
theorem tn_3 : ∀ a, a < 9 → ∀ b, b < 9 → a ≠ b → (TF3 a).2.1 ≠ (TF3 b).2.1 := by decide +kernel
theorem tt_3 : ∀ k, k < 9 → parseFieldDescriptor (TF3 k).2.2.1 = some (ty3_ k) := by decide +kernel
theorem tu_3 : ∀ w ∈ u_ws "DecimalTruth" TF3 9, w ∈ al := by
  have h : (u_ws "DecimalTruth" TF3 9).all (fun w => decide (w ∈ tables_1) && goodWord w) = true := by decide +kernel
  intro w hw
  have h2 := List.all_eq_true.mp h w hw
  rw [Bool.and_eq_true, decide_eq_true_iff] at h2
  exact List.mem_filter.mpr ⟨List.mem_append_right _ h2.1, h2.2⟩
def TF4 : u_T := fun k => match k with
  | 0 => ("DecimalTruthModel", "err", "I", false)
  | 1 => ("DecimalTruthModel", "minus", "Z", false)
  | 2 => ("DecimalTruthModel", "digit", "[I", true)
  | 3 => ("DecimalTruthModel", "digits", "I", false)
  | 4 => ("DecimalTruthModel", "place", "I", false)
  | 5 => ("DecimalTruthModel", "zeros", "I", false)
  | 6 => ("DecimalTruthModel", "behind", "I", false)
  | 7 => ("DecimalTruthModel", "row", "[I", true)
  | 8 => ("DecimalTruthModel", "many", "I", false)
  | 9 => ("DecimalTruthModel", "fraction", "I", false)
  | 10 => ("DecimalTruthModel", "found", "J", false)
  | 11 => ("DecimalTruthModel", "bit", "[I", true)
  | 12 => ("DecimalTruthModel", "was", "[I", true)
  | 13 => ("DecimalTruthModel", "low", "[I", true)
  | 14 => ("DecimalTruthModel", "high", "[I", true)
  | 15 => ("DecimalTruthModel", "lows", "I", false)
  | 16 => ("DecimalTruthModel", "lowPlace", "I", false)
  | 17 => ("DecimalTruthModel", "highs", "I", false)
  | _ => ("DecimalTruthModel", "highPlace", "I", false)
def ty4_ : Nat → FieldType := fun k => match k with
  | 0 => .int
  | 1 => .boolean
  | 2 => .array .int
  | 3 => .int
  | 4 => .int
  | 5 => .int
  | 6 => .int
  | 7 => .array .int
  | 8 => .int
  | 9 => .int
  | 10 => .long
  | 11 => .array .int
  | 12 => .array .int
  | 13 => .array .int
  | 14 => .array .int
  | 15 => .int
  | 16 => .int
  | 17 => .int
  | _ => .int
theorem tn_4 : ∀ a, a < 19 → ∀ b, b < 19 → a ≠ b → (TF4 a).2.1 ≠ (TF4 b).2.1 := by decide +kernel
theorem tt_4 : ∀ k, k < 19 → parseFieldDescriptor (TF4 k).2.2.1 = some (ty4_ k) := by decide +kernel
theorem tu_4 : ∀ w ∈ u_ws "DecimalTruthModel" TF4 19, w ∈ al := by
  have h : (u_ws "DecimalTruthModel" TF4 19).all (fun w => decide (w ∈ tables_1) && goodWord w) = true := by decide +kernel
  intro w hw
  have h2 := List.all_eq_true.mp h w hw
  rw [Bool.and_eq_true, decide_eq_true_iff] at h2
  exact List.mem_filter.mpr ⟨List.mem_append_right _ h2.1, h2.2⟩
abbrev clz : List vw_C := [("DecimalTruth$Decimal", TF0, 3), ("DecimalTruth$Groups", TF1, 3), ("DecimalTruth$Words", TF2, 2), ("DecimalTruth", TF3, 9), ("DecimalTruthModel", TF4, 19)]
abbrev kb_Tru_init : ByteArray := prog_1_method_1_code
abbrev ky_Tru_init : MethodName := ⟨"DecimalTruth", "<init>", "()V"⟩
theorem cd_Tru_init : Cond.code ky_Tru_init kb_Tru_init 1 none ∈ al := wl (i := 21) rfl rfl
abbrev kb_Tru_set : ByteArray := prog_1_method_2_code
abbrev ky_Tru_set : MethodName := ⟨"DecimalTruth", "set", "(J)I"⟩
theorem cd_Tru_set : Cond.code ky_Tru_set kb_Tru_set 5 (some .int) ∈ al := wl (i := 116) rfl rfl
abbrev kb_Tru_digit : ByteArray := prog_1_method_3_code
abbrev ky_Tru_digit : MethodName := ⟨"DecimalTruth", "digit", "(I)I"⟩
theorem cd_Tru_digit : Cond.code ky_Tru_digit kb_Tru_digit 2 (some .int) ∈ al := wl (i := 254) rfl rfl
abbrev kb_Tru_clear : ByteArray := prog_1_method_4_code
abbrev ky_Tru_clear : MethodName := ⟨"DecimalTruth", "clear", "(ZI)V"⟩
theorem cd_Tru_clear : Cond.code ky_Tru_clear kb_Tru_clear 3 none ∈ al := wl (i := 287) rfl rfl
abbrev kb_Tru_round : ByteArray := prog_1_method_5_code
abbrev ky_Tru_round : MethodName := ⟨"DecimalTruth", "round", "(I)I"⟩
theorem cd_Tru_round : Cond.code ky_Tru_round kb_Tru_round 2 (some .int) ∈ al := wl (i := 299) rfl rfl
abbrev kb_Tru_places : ByteArray := prog_1_method_6_code
abbrev ky_Tru_places : MethodName := ⟨"DecimalTruth", "places", "(I)I"⟩
theorem cd_Tru_places : Cond.code ky_Tru_places kb_Tru_places 2 (some .int) ∈ al := wl (i := 328) rfl rfl
abbrev kb_Tru_nearest : ByteArray := prog_1_method_7_code
abbrev ky_Tru_nearest : MethodName := ⟨"DecimalTruth", "nearest", "()J"⟩
theorem cd_Tru_nearest : Cond.code ky_Tru_nearest kb_Tru_nearest 3 (some .long) ∈ al := wl (i := 337) rfl rfl
abbrev kb_Tru_enough : ByteArray := prog_1_method_8_code
abbrev ky_Tru_enough : MethodName := ⟨"DecimalTruth", "enough", "()I"⟩
set_option maxRecDepth 10000 in
theorem cd_Tru_enough : Cond.code ky_Tru_enough kb_Tru_enough 4 (some .int) ∈ al := wl (i := 406) rfl rfl
abbrev kb_Tru_look : ByteArray := prog_1_method_9_code
abbrev ky_Tru_look : MethodName := ⟨"DecimalTruth", "look", "(I)I"⟩
set_option maxRecDepth 10000 in
theorem cd_Tru_look : Cond.code ky_Tru_look kb_Tru_look 2 (some .int) ∈ al := wl (i := 443) rfl rfl
abbrev kb_Tru_count : ByteArray := prog_1_method_10_code
abbrev ky_Tru_count : MethodName := ⟨"DecimalTruth", "count", "(I)I"⟩
set_option maxRecDepth 10000 in
theorem cd_Tru_count : Cond.code ky_Tru_count kb_Tru_count 2 (some .int) ∈ al := wl (i := 451) rfl rfl
abbrev kb_Tru_hasNoRoomFor : ByteArray := prog_1_method_11_code
abbrev ky_Tru_hasNoRoomFor : MethodName := ⟨"DecimalTruth", "hasNoRoomFor", "(I)Z"⟩
theorem cd_Tru_hasNoRoomFor : Cond.code ky_Tru_hasNoRoomFor kb_Tru_hasNoRoomFor 2 (some .boolean) ∈ al := wl (i := 259) rfl rfl
abbrev kb_Tru_bringDigit : ByteArray := prog_1_method_12_code
abbrev ky_Tru_bringDigit : MethodName := ⟨"DecimalTruth", "bringDigit", "(I)V"⟩
theorem cd_Tru_bringDigit : Cond.code ky_Tru_bringDigit kb_Tru_bringDigit 3 none ∈ al := wl (i := 279) rfl rfl
abbrev kb_Tru_forgetWhatCame : ByteArray := prog_1_method_13_code
abbrev ky_Tru_forgetWhatCame : MethodName := ⟨"DecimalTruth", "forgetWhatCame", "()V"⟩
theorem cd_Tru_forgetWhatCame : Cond.code ky_Tru_forgetWhatCame kb_Tru_forgetWhatCame 1 none ∈ al := wl (i := 246) rfl rfl
abbrev kb_Tru_roundToDigits : ByteArray := prog_1_method_14_code
abbrev ky_Tru_roundToDigits : MethodName := ⟨"DecimalTruth", "roundToDigits", "(I)V"⟩
theorem cd_Tru_roundToDigits : Cond.code ky_Tru_roundToDigits kb_Tru_roundToDigits 2 none ∈ al := wl (i := 304) rfl rfl
abbrev kb_Tru_nearestSize : ByteArray := prog_1_method_15_code
abbrev ky_Tru_nearestSize : MethodName := ⟨"DecimalTruth", "nearestSize", "()J"⟩
theorem cd_Tru_nearestSize : Cond.code ky_Tru_nearestSize kb_Tru_nearestSize 1 (some .long) ∈ al := wl (i := 341) rfl rfl
abbrev kb_Tru_leastDigitsFor : ByteArray := prog_1_method_16_code
abbrev ky_Tru_leastDigitsFor : MethodName := ⟨"DecimalTruth", "leastDigitsFor", "(J)I"⟩
set_option maxRecDepth 10000 in
theorem cd_Tru_leastDigitsFor : Cond.code ky_Tru_leastDigitsFor kb_Tru_leastDigitsFor 5 (some .int) ∈ al := wl (i := 410) rfl rfl
abbrev kb_Tru_holdsWith : ByteArray := prog_1_method_17_code
abbrev ky_Tru_holdsWith : MethodName := ⟨"DecimalTruth", "holdsWith", "(IZ)Z"⟩
set_option maxRecDepth 10000 in
theorem cd_Tru_holdsWith : Cond.code ky_Tru_holdsWith kb_Tru_holdsWith 5 (some .boolean) ∈ al := wl (i := 419) rfl rfl
abbrev kb_Tru_spellMiddleAbove : ByteArray := prog_1_method_18_code
abbrev ky_Tru_spellMiddleAbove : MethodName := ⟨"DecimalTruth", "spellMiddleAbove", "(JLDecimalTruth$Decimal;)V"⟩
set_option maxRecDepth 10000 in
theorem cd_Tru_spellMiddleAbove : Cond.code ky_Tru_spellMiddleAbove kb_Tru_spellMiddleAbove 4 none ∈ al := wl (i := 414) rfl rfl
abbrev kb_Tru_spell : ByteArray := prog_1_method_19_code
abbrev ky_Tru_spell : MethodName := ⟨"DecimalTruth", "spell", "(JILDecimalTruth$Decimal;)V"⟩
theorem cd_Tru_spell : Cond.code ky_Tru_spell kb_Tru_spell 5 none ∈ al := wl (i := 200) rfl rfl
abbrev kb_Tru_factorOf : ByteArray := prog_1_method_20_code
abbrev ky_Tru_factorOf : MethodName := ⟨"DecimalTruth", "factorOf", "(J)J"⟩
theorem cd_Tru_factorOf : Cond.code ky_Tru_factorOf kb_Tru_factorOf 4 (some .long) ∈ al := wl (i := 189) rfl rfl
abbrev kb_Tru_powerOf : ByteArray := prog_1_method_21_code
abbrev ky_Tru_powerOf : MethodName := ⟨"DecimalTruth", "powerOf", "(J)I"⟩
theorem cd_Tru_powerOf : Cond.code ky_Tru_powerOf kb_Tru_powerOf 3 (some .int) ∈ al := wl (i := 193) rfl rfl
abbrev kb_Mod_init : ByteArray := prog_6_method_1_code
abbrev ky_Mod_init : MethodName := ⟨"DecimalTruthModel", "<init>", "()V"⟩
set_option maxRecDepth 10000 in
theorem cd_Mod_init : Cond.code ky_Mod_init kb_Mod_init 1 none ∈ al := wl (i := 457) rfl rfl
abbrev kb_Mod_thrown : ByteArray := prog_6_method_2_code
abbrev ky_Mod_thrown : MethodName := ⟨"DecimalTruthModel", "thrown", "()I"⟩
set_option maxRecDepth 10000 in
theorem cd_Mod_thrown : Cond.code ky_Mod_thrown kb_Mod_thrown 1 (some .int) ∈ al := wl (i := 520) rfl rfl
abbrev kb_Mod_in : ByteArray := prog_6_method_3_code
abbrev ky_Mod_in : MethodName := ⟨"DecimalTruthModel", "in", "(JJJ)Z"⟩
set_option maxRecDepth 10000 in
theorem cd_Mod_in : Cond.code ky_Mod_in kb_Mod_in 6 (some .boolean) ∈ al := wl (i := 551) rfl rfl
abbrev kb_Mod_fails : ByteArray := prog_6_method_4_code
abbrev ky_Mod_fails : MethodName := ⟨"DecimalTruthModel", "fails", "(ZI)Z"⟩
set_option maxRecDepth 10000 in
theorem cd_Mod_fails : Cond.code ky_Mod_fails kb_Mod_fails 3 (some .boolean) ∈ al := wl (i := 528) rfl rfl
abbrev kb_Mod_set : ByteArray := prog_6_method_5_code
abbrev ky_Mod_set : MethodName := ⟨"DecimalTruthModel", "set", "(J)I"⟩
set_option maxRecDepth 10000 in
theorem cd_Mod_set : Cond.code ky_Mod_set kb_Mod_set 10 (some .int) ∈ al := wl (i := 524) rfl rfl
abbrev kb_Mod_twice : ByteArray := prog_6_method_6_code
abbrev ky_Mod_twice : MethodName := ⟨"DecimalTruthModel", "twice", "()V"⟩
set_option maxRecDepth 10000 in
theorem cd_Mod_twice : Cond.code ky_Mod_twice kb_Mod_twice 4 none ∈ al := wl (i := 535) rfl rfl
abbrev kb_Mod_half : ByteArray := prog_6_method_7_code
abbrev ky_Mod_half : MethodName := ⟨"DecimalTruthModel", "half", "()V"⟩
set_option maxRecDepth 10000 in
theorem cd_Mod_half : Cond.code ky_Mod_half kb_Mod_half 4 none ∈ al := wl (i := 539) rfl rfl
abbrev kb_Mod_keep : ByteArray := prog_6_method_8_code
abbrev ky_Mod_keep : MethodName := ⟨"DecimalTruthModel", "keep", "()V"⟩
set_option maxRecDepth 10000 in
theorem cd_Mod_keep : Cond.code ky_Mod_keep kb_Mod_keep 4 none ∈ al := wl (i := 543) rfl rfl
abbrev kb_Mod_digit : ByteArray := prog_6_method_9_code
abbrev ky_Mod_digit : MethodName := ⟨"DecimalTruthModel", "digit", "(I)I"⟩
set_option maxRecDepth 10000 in
theorem cd_Mod_digit : Cond.code ky_Mod_digit kb_Mod_digit 2 (some .int) ∈ al := wl (i := 547) rfl rfl
abbrev kb_Mod_clear : ByteArray := prog_6_method_10_code
abbrev ky_Mod_clear : MethodName := ⟨"DecimalTruthModel", "clear", "(ZI)V"⟩
set_option maxRecDepth 10000 in
theorem cd_Mod_clear : Cond.code ky_Mod_clear kb_Mod_clear 3 none ∈ al := wl (i := 555) rfl rfl
abbrev kb_Mod_cut : ByteArray := prog_6_method_11_code
abbrev ky_Mod_cut : MethodName := ⟨"DecimalTruthModel", "cut", "(J)V"⟩
set_option maxRecDepth 10000 in
theorem cd_Mod_cut : Cond.code ky_Mod_cut kb_Mod_cut 5 none ∈ al := wl (i := 567) rfl rfl
abbrev kb_Mod_nothing : ByteArray := prog_6_method_12_code
abbrev ky_Mod_nothing : MethodName := ⟨"DecimalTruthModel", "nothing", "()V"⟩
set_option maxRecDepth 10000 in
theorem cd_Mod_nothing : Cond.code ky_Mod_nothing kb_Mod_nothing 1 none ∈ al := wl (i := 571) rfl rfl
abbrev kb_Mod_round : ByteArray := prog_6_method_13_code
abbrev ky_Mod_round : MethodName := ⟨"DecimalTruthModel", "round", "(I)I"⟩
set_option maxRecDepth 10000 in
theorem cd_Mod_round : Cond.code ky_Mod_round kb_Mod_round 2 (some .int) ∈ al := wl (i := 561) rfl rfl
abbrev kb_Mod_places : ByteArray := prog_6_method_14_code
abbrev ky_Mod_places : MethodName := ⟨"DecimalTruthModel", "places", "(I)I"⟩
set_option maxRecDepth 10000 in
theorem cd_Mod_places : Cond.code ky_Mod_places kb_Mod_places 2 (some .int) ∈ al := wl (i := 575) rfl rfl
abbrev kb_Mod_finds : ByteArray := prog_6_method_15_code
abbrev ky_Mod_finds : MethodName := ⟨"DecimalTruthModel", "finds", "(I)Z"⟩
set_option maxRecDepth 10000 in
theorem cd_Mod_finds : Cond.code ky_Mod_finds kb_Mod_finds 13 (some .boolean) ∈ al := wl (i := 584) rfl rfl
abbrev kb_Mod_isNothing : ByteArray := prog_6_method_16_code
abbrev ky_Mod_isNothing : MethodName := ⟨"DecimalTruthModel", "isNothing", "(II)Z"⟩
set_option maxRecDepth 10000 in
theorem cd_Mod_isNothing : Cond.code ky_Mod_isNothing kb_Mod_isNothing 4 (some .boolean) ∈ al := wl (i := 588) rfl rfl
abbrev kb_Mod_put : ByteArray := prog_6_method_17_code
abbrev ky_Mod_put : MethodName := ⟨"DecimalTruthModel", "put", "(JIIZ)Z"⟩
set_option maxRecDepth 10000 in
theorem cd_Mod_put : Cond.code ky_Mod_put kb_Mod_put 12 (some .boolean) ∈ al := wl (i := 592) rfl rfl
abbrev kb_Mod_nearest : ByteArray := prog_6_method_18_code
abbrev ky_Mod_nearest : MethodName := ⟨"DecimalTruthModel", "nearest", "()J"⟩
set_option maxRecDepth 10000 in
theorem cd_Mod_nearest : Cond.code ky_Mod_nearest kb_Mod_nearest 1 (some .long) ∈ al := wl (i := 580) rfl rfl
abbrev kb_Mod_exactly : ByteArray := prog_6_method_19_code
abbrev ky_Mod_exactly : MethodName := ⟨"DecimalTruthModel", "exactly", "(JI)V"⟩
set_option maxRecDepth 10000 in
theorem cd_Mod_exactly : Cond.code ky_Mod_exactly kb_Mod_exactly 7 none ∈ al := wl (i := 603) rfl rfl
abbrev kb_Mod_compare : ByteArray := prog_6_method_20_code
abbrev ky_Mod_compare : MethodName := ⟨"DecimalTruthModel", "compare", "([III)I"⟩
set_option maxRecDepth 10000 in
theorem cd_Mod_compare : Cond.code ky_Mod_compare kb_Mod_compare 7 (some .int) ∈ al := wl (i := 608) rfl rfl
abbrev kb_Mod_enough : ByteArray := prog_6_method_21_code
abbrev ky_Mod_enough : MethodName := ⟨"DecimalTruthModel", "enough", "()I"⟩
set_option maxRecDepth 10000 in
theorem cd_Mod_enough : Cond.code ky_Mod_enough kb_Mod_enough 12 (some .int) ∈ al := wl (i := 598) rfl rfl
abbrev kb_Mod_look : ByteArray := prog_6_method_22_code
abbrev ky_Mod_look : MethodName := ⟨"DecimalTruthModel", "look", "(I)I"⟩
set_option maxRecDepth 10000 in
theorem cd_Mod_look : Cond.code ky_Mod_look kb_Mod_look 2 (some .int) ∈ al := wl (i := 612) rfl rfl
abbrev kb_Mod_count : ByteArray := prog_6_method_23_code
abbrev ky_Mod_count : MethodName := ⟨"DecimalTruthModel", "count", "(I)I"⟩
set_option maxRecDepth 10000 in
theorem cd_Mod_count : Cond.code ky_Mod_count kb_Mod_count 2 (some .int) ∈ al := wl (i := 616) rfl rfl
abbrev kb_Dec_init : ByteArray := prog_2_method_1_code
abbrev ky_Dec_init : MethodName := ⟨"DecimalTruth$Decimal", "<init>", "()V"⟩
theorem cd_Dec_init : Cond.code ky_Dec_init kb_Dec_init 1 none ∈ al := wl (i := 29) rfl rfl
abbrev kb_Dec_beZero : ByteArray := prog_2_method_2_code
abbrev ky_Dec_beZero : MethodName := ⟨"DecimalTruth$Decimal", "beZero", "()V"⟩
theorem cd_Dec_beZero : Cond.code ky_Dec_beZero kb_Dec_beZero 1 none ∈ al := wl (i := 292) rfl rfl
abbrev kb_Dec_beStartOf : ByteArray := prog_2_method_3_code
abbrev ky_Dec_beStartOf : MethodName := ⟨"DecimalTruth$Decimal", "beStartOf", "(LDecimalTruth$Decimal;I)V"⟩
set_option maxRecDepth 10000 in
theorem cd_Dec_beStartOf : Cond.code ky_Dec_beStartOf kb_Dec_beStartOf 3 none ∈ al := wl (i := 424) rfl rfl
abbrev kb_Dec_append : ByteArray := prog_2_method_4_code
abbrev ky_Dec_append : MethodName := ⟨"DecimalTruth$Decimal", "append", "(I)V"⟩
theorem cd_Dec_append : Cond.code ky_Dec_append kb_Dec_append 2 none ∈ al := wl (i := 238) rfl rfl
abbrev kb_Dec_cutBehind : ByteArray := prog_2_method_5_code
abbrev ky_Dec_cutBehind : MethodName := ⟨"DecimalTruth$Decimal", "cutBehind", "(I)V"⟩
theorem cd_Dec_cutBehind : Cond.code ky_Dec_cutBehind kb_Dec_cutBehind 3 none ∈ al := wl (i := 308) rfl rfl
abbrev kb_Dec_goesUpBehind : ByteArray := prog_2_method_6_code
abbrev ky_Dec_goesUpBehind : MethodName := ⟨"DecimalTruth$Decimal", "goesUpBehind", "(I)Z"⟩
theorem cd_Dec_goesUpBehind : Cond.code ky_Dec_goesUpBehind kb_Dec_goesUpBehind 4 (some .boolean) ∈ al := wl (i := 313) rfl rfl
abbrev kb_Dec_settle : ByteArray := prog_2_method_7_code
abbrev ky_Dec_settle : MethodName := ⟨"DecimalTruth$Decimal", "settle", "(Z)V"⟩
theorem cd_Dec_settle : Cond.code ky_Dec_settle kb_Dec_settle 2 none ∈ al := wl (i := 317) rfl rfl
abbrev kb_Dec_goUp : ByteArray := prog_2_method_8_code
abbrev ky_Dec_goUp : MethodName := ⟨"DecimalTruth$Decimal", "goUp", "()V"⟩
theorem cd_Dec_goUp : Cond.code ky_Dec_goUp kb_Dec_goUp 1 none ∈ al := wl (i := 321) rfl rfl
abbrev kb_Dec_dropZerosAtEnd : ByteArray := prog_2_method_9_code
abbrev ky_Dec_dropZerosAtEnd : MethodName := ⟨"DecimalTruth$Decimal", "dropZerosAtEnd", "()V"⟩
theorem cd_Dec_dropZerosAtEnd : Cond.code ky_Dec_dropZerosAtEnd kb_Dec_dropZerosAtEnd 1 none ∈ al := wl (i := 242) rfl rfl
abbrev kb_Dec_against : ByteArray := prog_2_method_10_code
abbrev ky_Dec_against : MethodName := ⟨"DecimalTruth$Decimal", "against", "(LDecimalTruth$Decimal;)I"⟩
set_option maxRecDepth 10000 in
theorem cd_Dec_against : Cond.code ky_Dec_against kb_Dec_against 4 (some .int) ∈ al := wl (i := 432) rfl rfl
abbrev kb_Dec_read : ByteArray := prog_2_method_11_code
abbrev ky_Dec_read : MethodName := ⟨"DecimalTruth$Decimal", "read", "(LDecimalTruth$Groups;)V"⟩
theorem cd_Dec_read : Cond.code ky_Dec_read kb_Dec_read 3 none ∈ al := wl (i := 224) rfl rfl
abbrev kb_Dec_readGroup : ByteArray := prog_2_method_12_code
abbrev ky_Dec_readGroup : MethodName := ⟨"DecimalTruth$Decimal", "readGroup", "(J)V"⟩
theorem cd_Dec_readGroup : Cond.code ky_Dec_readGroup kb_Dec_readGroup 6 none ∈ al := wl (i := 232) rfl rfl
abbrev kb_Grp_init : ByteArray := prog_3_method_1_code
abbrev ky_Grp_init : MethodName := ⟨"DecimalTruth$Groups", "<init>", "()V"⟩
theorem cd_Grp_init : Cond.code ky_Grp_init kb_Grp_init 1 none ∈ al := wl (i := 52) rfl rfl
abbrev kb_Grp_placeOfFirst : ByteArray := prog_3_method_2_code
abbrev ky_Grp_placeOfFirst : MethodName := ⟨"DecimalTruth$Groups", "placeOfFirst", "()I"⟩
theorem cd_Grp_placeOfFirst : Cond.code ky_Grp_placeOfFirst kb_Grp_placeOfFirst 1 (some .int) ∈ al := wl (i := 228) rfl rfl
abbrev kb_Grp_hasSomethingBehindPoint : ByteArray := prog_3_method_3_code
abbrev ky_Grp_hasSomethingBehindPoint : MethodName := ⟨"DecimalTruth$Groups", "hasSomethingBehindPoint", "()Z"⟩
set_option maxRecDepth 10000 in
theorem cd_Grp_hasSomethingBehindPoint : Cond.code ky_Grp_hasSomethingBehindPoint kb_Grp_hasSomethingBehindPoint 1 (some .boolean) ∈ al := wl (i := 362) rfl rfl
abbrev kb_Grp_beProduct : ByteArray := prog_3_method_4_code
abbrev ky_Grp_beProduct : MethodName := ⟨"DecimalTruth$Groups", "beProduct", "(JI)V"⟩
theorem cd_Grp_beProduct : Cond.code ky_Grp_beProduct kb_Grp_beProduct 5 none ∈ al := wl (i := 204) rfl rfl
abbrev kb_Grp_load : ByteArray := prog_3_method_5_code
abbrev ky_Grp_load : MethodName := ⟨"DecimalTruth$Groups", "load", "(LDecimalTruth$Decimal;)V"⟩
theorem cd_Grp_load : Cond.code ky_Grp_load kb_Grp_load 5 none ∈ al := wl (i := 345) rfl rfl
abbrev kb_Grp_multiply : ByteArray := prog_3_method_6_code
abbrev ky_Grp_multiply : MethodName := ⟨"DecimalTruth$Groups", "multiply", "(II)J"⟩
theorem cd_Grp_multiply : Cond.code ky_Grp_multiply kb_Grp_multiply 8 (some .long) ∈ al := wl (i := 215) rfl rfl
abbrev kb_Grp_divide : ByteArray := prog_3_method_7_code
abbrev ky_Grp_divide : MethodName := ⟨"DecimalTruth$Groups", "divide", "(II)J"⟩
theorem cd_Grp_divide : Cond.code ky_Grp_divide kb_Grp_divide 10 (some .long) ∈ al := wl (i := 219) rfl rfl
abbrev kb_Wrd_init : ByteArray := prog_4_method_1_code
abbrev ky_Wrd_init : MethodName := ⟨"DecimalTruth$Words", "<init>", "()V"⟩
theorem cd_Wrd_init : Cond.code ky_Wrd_init kb_Wrd_init 1 none ∈ al := wl (i := 72) rfl rfl
abbrev kb_Wrd_load : ByteArray := prog_4_method_2_code
abbrev ky_Wrd_load : MethodName := ⟨"DecimalTruth$Words", "load", "(LDecimalTruth$Groups;)V"⟩
set_option maxRecDepth 10000 in
theorem cd_Wrd_load : Cond.code ky_Wrd_load kb_Wrd_load 4 none ∈ al := wl (i := 351) rfl rfl
abbrev kb_Wrd_roundedSize : ByteArray := prog_4_method_3_code
abbrev ky_Wrd_roundedSize : MethodName := ⟨"DecimalTruth$Words", "roundedSize", "()J"⟩
set_option maxRecDepth 10000 in
theorem cd_Wrd_roundedSize : Cond.code ky_Wrd_roundedSize kb_Wrd_roundedSize 9 (some .long) ∈ al := wl (i := 366) rfl rfl
abbrev kb_Wrd_roundHead : ByteArray := prog_4_method_4_code
abbrev ky_Wrd_roundHead : MethodName := ⟨"DecimalTruth$Words", "roundHead", "(JZI)J"⟩
set_option maxRecDepth 10000 in
theorem cd_Wrd_roundHead : Cond.code ky_Wrd_roundHead kb_Wrd_roundHead 13 (some .long) ∈ al := wl (i := 381) rfl rfl
abbrev kb_Wrd_firstThatIsNotZero : ByteArray := prog_4_method_5_code
abbrev ky_Wrd_firstThatIsNotZero : MethodName := ⟨"DecimalTruth$Words", "firstThatIsNotZero", "(I)I"⟩
set_option maxRecDepth 10000 in
theorem cd_Wrd_firstThatIsNotZero : Cond.code ky_Wrd_firstThatIsNotZero kb_Wrd_firstThatIsNotZero 3 (some .int) ∈ al := wl (i := 357) rfl rfl
abbrev kb_Wrd_isMoreFrom : ByteArray := prog_4_method_6_code
abbrev ky_Wrd_isMoreFrom : MethodName := ⟨"DecimalTruth$Words", "isMoreFrom", "(I)Z"⟩
set_option maxRecDepth 10000 in
theorem cd_Wrd_isMoreFrom : Cond.code ky_Wrd_isMoreFrom kb_Wrd_isMoreFrom 4 (some .boolean) ∈ al := wl (i := 378) rfl rfl
abbrev kb_Law_set : ByteArray := method_3_code
abbrev ky_Law_set : MethodName := ⟨"DecimalTruthLaw", "set", "(LDecimalTruth;J[J)I"⟩
abbrev kb_Law_digit : ByteArray := method_4_code
abbrev ky_Law_digit : MethodName := ⟨"DecimalTruthLaw", "digit", "(LDecimalTruth;I[J)I"⟩
abbrev kb_Law_clear : ByteArray := method_5_code
abbrev ky_Law_clear : MethodName := ⟨"DecimalTruthLaw", "clear", "(LDecimalTruth;ZI)I"⟩
abbrev kb_Law_round : ByteArray := method_6_code
abbrev ky_Law_round : MethodName := ⟨"DecimalTruthLaw", "round", "(LDecimalTruth;I[J)I"⟩
abbrev kb_Law_places : ByteArray := method_7_code
abbrev ky_Law_places : MethodName := ⟨"DecimalTruthLaw", "places", "(LDecimalTruth;I[J)I"⟩
abbrev kb_Law_nearest : ByteArray := method_8_code
abbrev ky_Law_nearest : MethodName := ⟨"DecimalTruthLaw", "nearest", "(LDecimalTruth;[J)I"⟩
abbrev kb_Law_enough : ByteArray := method_9_code
abbrev ky_Law_enough : MethodName := ⟨"DecimalTruthLaw", "enough", "(LDecimalTruth;[J)I"⟩
abbrev kb_Law_look : ByteArray := method_10_code
abbrev ky_Law_look : MethodName := ⟨"DecimalTruthLaw", "look", "(LDecimalTruth;I[J)I"⟩
abbrev kb_Law_count : ByteArray := method_11_code
abbrev ky_Law_count : MethodName := ⟨"DecimalTruthLaw", "count", "(LDecimalTruth;I[J)I"⟩
abbrev kb_JInt_compare : ByteArray := prog_11_method_40_code
abbrev ky_JInt_compare : MethodName := ⟨"java/lang/Integer", "compare", "(II)I"⟩
set_option maxRecDepth 10000 in
theorem cd_JInt_compare : Cond.code ky_JInt_compare kb_JInt_compare 2 (some .int) ∈ al := wl (i := 435) rfl rfl
abbrev kb_JInt_numberOfLeadingZeros : ByteArray := prog_11_method_47_code
abbrev ky_JInt_numberOfLeadingZeros : MethodName := ⟨"java/lang/Integer", "numberOfLeadingZeros", "(I)I"⟩
set_option maxRecDepth 10000 in
theorem cd_JInt_numberOfLeadingZeros : Cond.code ky_JInt_numberOfLeadingZeros kb_JInt_numberOfLeadingZeros 2 (some .int) ∈ al := wl (i := 372) rfl rfl
abbrev kb_JLon_numberOfLeadingZeros : ByteArray := prog_12_method_48_code
abbrev ky_JLon_numberOfLeadingZeros : MethodName := ⟨"java/lang/Long", "numberOfLeadingZeros", "(J)I"⟩
set_option maxRecDepth 10000 in
theorem cd_JLon_numberOfLeadingZeros : Cond.code ky_JLon_numberOfLeadingZeros kb_JLon_numberOfLeadingZeros 3 (some .int) ∈ al := wl (i := 369) rfl rfl
abbrev kb_JArr_fill : ByteArray := prog_18_method_101_code
abbrev ky_JArr_fill : MethodName := ⟨"java/util/Arrays", "fill", "([JJ)V"⟩
theorem cd_JArr_fill : Cond.code ky_JArr_fill kb_JArr_fill 5 none ∈ al := wl (i := 207) rfl rfl
