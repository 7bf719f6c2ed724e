theorem c_JInt_numberOfLeadingZeros (cI cJ : ClassId) (x : Nat) (h0 : 0 < x) (hx : x < 4294967296) : MtI cI cJ ky_JInt_numberOfLeadingZeros kb_JInt_numberOfLeadingZeros 2 .int rm_JInt_numberOfLeadingZeros Xt [vi ((x : Nat) : Int)] [] (fun z u => ∃ n : Nat, z = ((n : Nat) : Int) ∧ n ≤ 31 ∧ 2147483648 ≤ x * 2 ^ n ∧ x * 2 ^ n < 4294967296 ∧ u = []) := by
  refine MtI_in (by decide) (Nat.le_of_ble_eq_true rfl) (fun K C hR hX hN => ?_)
  show V K 2 [] 0 0 0 [(0, vi ((x : Nat) : Int))] []
  by_cases hb : x < 2147483648
  · skip
    refine qv_iload_n C rfl dq_JInt_numberOfLeadingZeros_0 ?_
    refine qv_ifgt C (by omega) (tgt := 15) (by decide) dq_JInt_numberOfLeadingZeros_1 (fun h1 => ?_) (fun h1 => ?_)
    · skip
      refine qv_bipush C (by decide) dq_JInt_numberOfLeadingZeros_15 ?_
      refine qv_istore_n C (lv' := [(1, vi 31), (0, vi ((x : Nat) : Int))]) (by decide) rfl dq_JInt_numberOfLeadingZeros_17 ?_
      refine qv_iload_n C rfl dq_JInt_numberOfLeadingZeros_18 ?_
      refine qv_ldcw C (z := 65536) wk_JInt_264 dq_JInt_numberOfLeadingZeros_19 ?_
      refine qv_iclt C (by omega) (by omega) (tgt := 33) (by decide) dq_JInt_numberOfLeadingZeros_22 (fun h22 => ?_) (fun h22 => ?_)
      · skip
        refine qv_iload_n C rfl dq_JInt_numberOfLeadingZeros_33 ?_
        refine qv_sipush C (by decide) dq_JInt_numberOfLeadingZeros_34 ?_
        refine qv_iclt C (by omega) (by omega) (tgt := 48) (by decide) dq_JInt_numberOfLeadingZeros_37 (fun h37 => ?_) (fun h37 => ?_)
        · skip
          refine qv_iload_n C rfl dq_JInt_numberOfLeadingZeros_48 ?_
          refine qv_bipush C (by decide) dq_JInt_numberOfLeadingZeros_49 ?_
          refine qv_iclt C (by omega) (by omega) (tgt := 61) (by decide) dq_JInt_numberOfLeadingZeros_51 (fun h51 => ?_) (fun h51 => ?_)
          · skip
            refine qv_iload_n C rfl dq_JInt_numberOfLeadingZeros_61 ?_
            refine qv_iconst C dq_JInt_numberOfLeadingZeros_62 ?_
            refine qv_iclt C (by omega) (by omega) (tgt := 73) (by decide) dq_JInt_numberOfLeadingZeros_63 (fun h63 => ?_) (fun h63 => ?_)
            · skip
              refine qv_iload_n C rfl dq_JInt_numberOfLeadingZeros_73 ?_
              refine qv_iload_n C rfl dq_JInt_numberOfLeadingZeros_74 ?_
              refine qv_iconst C dq_JInt_numberOfLeadingZeros_75 ?_
              refine qv_iushr C x 1 (by omega) (by omega) (by omega) (by omega) dq_JInt_numberOfLeadingZeros_76 ?_
              refine qv_isub C (r := (((31 - x / 2 ^ 1) : Nat) : Int)) (by omega) dq_JInt_numberOfLeadingZeros_77 ?_
              refine qv_iret C hR ?_ dq_JInt_numberOfLeadingZeros_78 (by decide) (by decide)
              by_cases q : x / 1 < 2
              · exact ⟨31, by omega, by omega, by omega, by omega, rfl⟩
              · exact ⟨30, by omega, by omega, by omega, by omega, rfl⟩
            · skip
              refine qv_iinc C (j := 0) (lv' := [(1, vi 29), (0, vi ((x : Nat) : Int))]) (by omega) rfl (by decide) rfl dq_JInt_numberOfLeadingZeros_66 ?_
              refine qv_iload_n C rfl dq_JInt_numberOfLeadingZeros_69 ?_
              refine qv_iconst C dq_JInt_numberOfLeadingZeros_70 ?_
              refine qv_iushr C x 2 (by omega) (by omega) (by omega) (by omega) dq_JInt_numberOfLeadingZeros_71 ?_
              refine qv_istore_n C (lv' := [(0, vi ((x / 2 ^ 2 : Nat) : Int)), (1, vi 29)]) (by decide) rfl dq_JInt_numberOfLeadingZeros_72 ?_
              refine qv_iload_n C rfl dq_JInt_numberOfLeadingZeros_73 ?_
              refine qv_iload_n C rfl dq_JInt_numberOfLeadingZeros_74 ?_
              refine qv_iconst C dq_JInt_numberOfLeadingZeros_75 ?_
              refine qv_iushr C (x / 2 ^ 2) 1 (by omega) (by omega) (by omega) (by omega) dq_JInt_numberOfLeadingZeros_76 ?_
              refine qv_isub C (r := (((29 - (x / 2 ^ 2) / 2 ^ 1) : Nat) : Int)) (by omega) dq_JInt_numberOfLeadingZeros_77 ?_
              refine qv_iret C hR ?_ dq_JInt_numberOfLeadingZeros_78 (by decide) (by decide)
              by_cases q : x / 4 < 2
              · exact ⟨29, by omega, by omega, by omega, by omega, rfl⟩
              · exact ⟨28, by omega, by omega, by omega, by omega, rfl⟩
          · skip
            refine qv_iinc C (j := 0) (lv' := [(1, vi 27), (0, vi ((x : Nat) : Int))]) (by omega) rfl (by decide) rfl dq_JInt_numberOfLeadingZeros_54 ?_
            refine qv_iload_n C rfl dq_JInt_numberOfLeadingZeros_57 ?_
            refine qv_iconst C dq_JInt_numberOfLeadingZeros_58 ?_
            refine qv_iushr C x 4 (by omega) (by omega) (by omega) (by omega) dq_JInt_numberOfLeadingZeros_59 ?_
            refine qv_istore_n C (lv' := [(0, vi ((x / 2 ^ 4 : Nat) : Int)), (1, vi 27)]) (by decide) rfl dq_JInt_numberOfLeadingZeros_60 ?_
            refine qv_iload_n C rfl dq_JInt_numberOfLeadingZeros_61 ?_
            refine qv_iconst C dq_JInt_numberOfLeadingZeros_62 ?_
            refine qv_iclt C (by omega) (by omega) (tgt := 73) (by decide) dq_JInt_numberOfLeadingZeros_63 (fun h63 => ?_) (fun h63 => ?_)
            · skip
              refine qv_iload_n C rfl dq_JInt_numberOfLeadingZeros_73 ?_
              refine qv_iload_n C rfl dq_JInt_numberOfLeadingZeros_74 ?_
              refine qv_iconst C dq_JInt_numberOfLeadingZeros_75 ?_
              refine qv_iushr C (x / 2 ^ 4) 1 (by omega) (by omega) (by omega) (by omega) dq_JInt_numberOfLeadingZeros_76 ?_
              refine qv_isub C (r := (((27 - (x / 2 ^ 4) / 2 ^ 1) : Nat) : Int)) (by omega) dq_JInt_numberOfLeadingZeros_77 ?_
              refine qv_iret C hR ?_ dq_JInt_numberOfLeadingZeros_78 (by decide) (by decide)
              by_cases q : x / 16 < 2
              · exact ⟨27, by omega, by omega, by omega, by omega, rfl⟩
              · exact ⟨26, by omega, by omega, by omega, by omega, rfl⟩
            · skip
              refine qv_iinc C (j := 1) (lv' := [(1, vi 25), (0, vi ((x / 2 ^ 4 : Nat) : Int))]) (by omega) rfl (by decide) rfl dq_JInt_numberOfLeadingZeros_66 ?_
              refine qv_iload_n C rfl dq_JInt_numberOfLeadingZeros_69 ?_
              refine qv_iconst C dq_JInt_numberOfLeadingZeros_70 ?_
              refine qv_iushr C (x / 2 ^ 4) 2 (by omega) (by omega) (by omega) (by omega) dq_JInt_numberOfLeadingZeros_71 ?_
              refine qv_istore_n C (lv' := [(0, vi (((x / 2 ^ 4) / 2 ^ 2 : Nat) : Int)), (1, vi 25)]) (by decide) rfl dq_JInt_numberOfLeadingZeros_72 ?_
              refine qv_iload_n C rfl dq_JInt_numberOfLeadingZeros_73 ?_
              refine qv_iload_n C rfl dq_JInt_numberOfLeadingZeros_74 ?_
              refine qv_iconst C dq_JInt_numberOfLeadingZeros_75 ?_
              refine qv_iushr C ((x / 2 ^ 4) / 2 ^ 2) 1 (by omega) (by omega) (by omega) (by omega) dq_JInt_numberOfLeadingZeros_76 ?_
              refine qv_isub C (r := (((25 - ((x / 2 ^ 4) / 2 ^ 2) / 2 ^ 1) : Nat) : Int)) (by omega) dq_JInt_numberOfLeadingZeros_77 ?_
              refine qv_iret C hR ?_ dq_JInt_numberOfLeadingZeros_78 (by decide) (by decide)
              by_cases q : x / 64 < 2
              · exact ⟨25, by omega, by omega, by omega, by omega, rfl⟩
              · exact ⟨24, by omega, by omega, by omega, by omega, rfl⟩
        · skip
          refine qv_iinc C (j := 0) (lv' := [(1, vi 23), (0, vi ((x : Nat) : Int))]) (by omega) rfl (by decide) rfl dq_JInt_numberOfLeadingZeros_40 ?_
          refine qv_iload_n C rfl dq_JInt_numberOfLeadingZeros_43 ?_
          refine qv_bipush C (by decide) dq_JInt_numberOfLeadingZeros_44 ?_
          refine qv_iushr C x 8 (by omega) (by omega) (by omega) (by omega) dq_JInt_numberOfLeadingZeros_46 ?_
          refine qv_istore_n C (lv' := [(0, vi ((x / 2 ^ 8 : Nat) : Int)), (1, vi 23)]) (by decide) rfl dq_JInt_numberOfLeadingZeros_47 ?_
          refine qv_iload_n C rfl dq_JInt_numberOfLeadingZeros_48 ?_
          refine qv_bipush C (by decide) dq_JInt_numberOfLeadingZeros_49 ?_
          refine qv_iclt C (by omega) (by omega) (tgt := 61) (by decide) dq_JInt_numberOfLeadingZeros_51 (fun h51 => ?_) (fun h51 => ?_)
          · skip
            refine qv_iload_n C rfl dq_JInt_numberOfLeadingZeros_61 ?_
            refine qv_iconst C dq_JInt_numberOfLeadingZeros_62 ?_
            refine qv_iclt C (by omega) (by omega) (tgt := 73) (by decide) dq_JInt_numberOfLeadingZeros_63 (fun h63 => ?_) (fun h63 => ?_)
            · skip
              refine qv_iload_n C rfl dq_JInt_numberOfLeadingZeros_73 ?_
              refine qv_iload_n C rfl dq_JInt_numberOfLeadingZeros_74 ?_
              refine qv_iconst C dq_JInt_numberOfLeadingZeros_75 ?_
              refine qv_iushr C (x / 2 ^ 8) 1 (by omega) (by omega) (by omega) (by omega) dq_JInt_numberOfLeadingZeros_76 ?_
              refine qv_isub C (r := (((23 - (x / 2 ^ 8) / 2 ^ 1) : Nat) : Int)) (by omega) dq_JInt_numberOfLeadingZeros_77 ?_
              refine qv_iret C hR ?_ dq_JInt_numberOfLeadingZeros_78 (by decide) (by decide)
              by_cases q : x / 256 < 2
              · exact ⟨23, by omega, by omega, by omega, by omega, rfl⟩
              · exact ⟨22, by omega, by omega, by omega, by omega, rfl⟩
            · skip
              refine qv_iinc C (j := 1) (lv' := [(1, vi 21), (0, vi ((x / 2 ^ 8 : Nat) : Int))]) (by omega) rfl (by decide) rfl dq_JInt_numberOfLeadingZeros_66 ?_
              refine qv_iload_n C rfl dq_JInt_numberOfLeadingZeros_69 ?_
              refine qv_iconst C dq_JInt_numberOfLeadingZeros_70 ?_
              refine qv_iushr C (x / 2 ^ 8) 2 (by omega) (by omega) (by omega) (by omega) dq_JInt_numberOfLeadingZeros_71 ?_
              refine qv_istore_n C (lv' := [(0, vi (((x / 2 ^ 8) / 2 ^ 2 : Nat) : Int)), (1, vi 21)]) (by decide) rfl dq_JInt_numberOfLeadingZeros_72 ?_
              refine qv_iload_n C rfl dq_JInt_numberOfLeadingZeros_73 ?_
              refine qv_iload_n C rfl dq_JInt_numberOfLeadingZeros_74 ?_
              refine qv_iconst C dq_JInt_numberOfLeadingZeros_75 ?_
              refine qv_iushr C ((x / 2 ^ 8) / 2 ^ 2) 1 (by omega) (by omega) (by omega) (by omega) dq_JInt_numberOfLeadingZeros_76 ?_
              refine qv_isub C (r := (((21 - ((x / 2 ^ 8) / 2 ^ 2) / 2 ^ 1) : Nat) : Int)) (by omega) dq_JInt_numberOfLeadingZeros_77 ?_
              refine qv_iret C hR ?_ dq_JInt_numberOfLeadingZeros_78 (by decide) (by decide)
              by_cases q : x / 1024 < 2
              · exact ⟨21, by omega, by omega, by omega, by omega, rfl⟩
              · exact ⟨20, by omega, by omega, by omega, by omega, rfl⟩
          · skip
            refine qv_iinc C (j := 1) (lv' := [(1, vi 19), (0, vi ((x / 2 ^ 8 : Nat) : Int))]) (by omega) rfl (by decide) rfl dq_JInt_numberOfLeadingZeros_54 ?_
            refine qv_iload_n C rfl dq_JInt_numberOfLeadingZeros_57 ?_
            refine qv_iconst C dq_JInt_numberOfLeadingZeros_58 ?_
            refine qv_iushr C (x / 2 ^ 8) 4 (by omega) (by omega) (by omega) (by omega) dq_JInt_numberOfLeadingZeros_59 ?_
            refine qv_istore_n C (lv' := [(0, vi (((x / 2 ^ 8) / 2 ^ 4 : Nat) : Int)), (1, vi 19)]) (by decide) rfl dq_JInt_numberOfLeadingZeros_60 ?_
            refine qv_iload_n C rfl dq_JInt_numberOfLeadingZeros_61 ?_
            refine qv_iconst C dq_JInt_numberOfLeadingZeros_62 ?_
            refine qv_iclt C (by omega) (by omega) (tgt := 73) (by decide) dq_JInt_numberOfLeadingZeros_63 (fun h63 => ?_) (fun h63 => ?_)
            · skip
              refine qv_iload_n C rfl dq_JInt_numberOfLeadingZeros_73 ?_
              refine qv_iload_n C rfl dq_JInt_numberOfLeadingZeros_74 ?_
              refine qv_iconst C dq_JInt_numberOfLeadingZeros_75 ?_
              refine qv_iushr C ((x / 2 ^ 8) / 2 ^ 4) 1 (by omega) (by omega) (by omega) (by omega) dq_JInt_numberOfLeadingZeros_76 ?_
              refine qv_isub C (r := (((19 - ((x / 2 ^ 8) / 2 ^ 4) / 2 ^ 1) : Nat) : Int)) (by omega) dq_JInt_numberOfLeadingZeros_77 ?_
              refine qv_iret C hR ?_ dq_JInt_numberOfLeadingZeros_78 (by decide) (by decide)
              by_cases q : x / 4096 < 2
              · exact ⟨19, by omega, by omega, by omega, by omega, rfl⟩
              · exact ⟨18, by omega, by omega, by omega, by omega, rfl⟩
            · skip
              refine qv_iinc C (j := 1) (lv' := [(1, vi 17), (0, vi (((x / 2 ^ 8) / 2 ^ 4 : Nat) : Int))]) (by omega) rfl (by decide) rfl dq_JInt_numberOfLeadingZeros_66 ?_
              refine qv_iload_n C rfl dq_JInt_numberOfLeadingZeros_69 ?_
              refine qv_iconst C dq_JInt_numberOfLeadingZeros_70 ?_
              refine qv_iushr C ((x / 2 ^ 8) / 2 ^ 4) 2 (by omega) (by omega) (by omega) (by omega) dq_JInt_numberOfLeadingZeros_71 ?_
              refine qv_istore_n C (lv' := [(0, vi ((((x / 2 ^ 8) / 2 ^ 4) / 2 ^ 2 : Nat) : Int)), (1, vi 17)]) (by decide) rfl dq_JInt_numberOfLeadingZeros_72 ?_
              refine qv_iload_n C rfl dq_JInt_numberOfLeadingZeros_73 ?_
              refine qv_iload_n C rfl dq_JInt_numberOfLeadingZeros_74 ?_
              refine qv_iconst C dq_JInt_numberOfLeadingZeros_75 ?_
              refine qv_iushr C (((x / 2 ^ 8) / 2 ^ 4) / 2 ^ 2) 1 (by omega) (by omega) (by omega) (by omega) dq_JInt_numberOfLeadingZeros_76 ?_
              refine qv_isub C (r := (((17 - (((x / 2 ^ 8) / 2 ^ 4) / 2 ^ 2) / 2 ^ 1) : Nat) : Int)) (by omega) dq_JInt_numberOfLeadingZeros_77 ?_
              refine qv_iret C hR ?_ dq_JInt_numberOfLeadingZeros_78 (by decide) (by decide)
              by_cases q : x / 16384 < 2
              · exact ⟨17, by omega, by omega, by omega, by omega, rfl⟩
              · exact ⟨16, by omega, by omega, by omega, by omega, rfl⟩
      · skip
        refine qv_iinc C (j := 0) (lv' := [(1, vi 15), (0, vi ((x : Nat) : Int))]) (by omega) rfl (by decide) rfl dq_JInt_numberOfLeadingZeros_25 ?_
        refine qv_iload_n C rfl dq_JInt_numberOfLeadingZeros_28 ?_
        refine qv_bipush C (by decide) dq_JInt_numberOfLeadingZeros_29 ?_
        refine qv_iushr C x 16 (by omega) (by omega) (by omega) (by omega) dq_JInt_numberOfLeadingZeros_31 ?_
        refine qv_istore_n C (lv' := [(0, vi ((x / 2 ^ 16 : Nat) : Int)), (1, vi 15)]) (by decide) rfl dq_JInt_numberOfLeadingZeros_32 ?_
        refine qv_iload_n C rfl dq_JInt_numberOfLeadingZeros_33 ?_
        refine qv_sipush C (by decide) dq_JInt_numberOfLeadingZeros_34 ?_
        refine qv_iclt C (by omega) (by omega) (tgt := 48) (by decide) dq_JInt_numberOfLeadingZeros_37 (fun h37 => ?_) (fun h37 => ?_)
        · skip
          refine qv_iload_n C rfl dq_JInt_numberOfLeadingZeros_48 ?_
          refine qv_bipush C (by decide) dq_JInt_numberOfLeadingZeros_49 ?_
          refine qv_iclt C (by omega) (by omega) (tgt := 61) (by decide) dq_JInt_numberOfLeadingZeros_51 (fun h51 => ?_) (fun h51 => ?_)
          · skip
            refine qv_iload_n C rfl dq_JInt_numberOfLeadingZeros_61 ?_
            refine qv_iconst C dq_JInt_numberOfLeadingZeros_62 ?_
            refine qv_iclt C (by omega) (by omega) (tgt := 73) (by decide) dq_JInt_numberOfLeadingZeros_63 (fun h63 => ?_) (fun h63 => ?_)
            · skip
              refine qv_iload_n C rfl dq_JInt_numberOfLeadingZeros_73 ?_
              refine qv_iload_n C rfl dq_JInt_numberOfLeadingZeros_74 ?_
              refine qv_iconst C dq_JInt_numberOfLeadingZeros_75 ?_
              refine qv_iushr C (x / 2 ^ 16) 1 (by omega) (by omega) (by omega) (by omega) dq_JInt_numberOfLeadingZeros_76 ?_
              refine qv_isub C (r := (((15 - (x / 2 ^ 16) / 2 ^ 1) : Nat) : Int)) (by omega) dq_JInt_numberOfLeadingZeros_77 ?_
              refine qv_iret C hR ?_ dq_JInt_numberOfLeadingZeros_78 (by decide) (by decide)
              by_cases q : x / 65536 < 2
              · exact ⟨15, by omega, by omega, by omega, by omega, rfl⟩
              · exact ⟨14, by omega, by omega, by omega, by omega, rfl⟩
            · skip
              refine qv_iinc C (j := 1) (lv' := [(1, vi 13), (0, vi ((x / 2 ^ 16 : Nat) : Int))]) (by omega) rfl (by decide) rfl dq_JInt_numberOfLeadingZeros_66 ?_
              refine qv_iload_n C rfl dq_JInt_numberOfLeadingZeros_69 ?_
              refine qv_iconst C dq_JInt_numberOfLeadingZeros_70 ?_
              refine qv_iushr C (x / 2 ^ 16) 2 (by omega) (by omega) (by omega) (by omega) dq_JInt_numberOfLeadingZeros_71 ?_
              refine qv_istore_n C (lv' := [(0, vi (((x / 2 ^ 16) / 2 ^ 2 : Nat) : Int)), (1, vi 13)]) (by decide) rfl dq_JInt_numberOfLeadingZeros_72 ?_
              refine qv_iload_n C rfl dq_JInt_numberOfLeadingZeros_73 ?_
              refine qv_iload_n C rfl dq_JInt_numberOfLeadingZeros_74 ?_
              refine qv_iconst C dq_JInt_numberOfLeadingZeros_75 ?_
              refine qv_iushr C ((x / 2 ^ 16) / 2 ^ 2) 1 (by omega) (by omega) (by omega) (by omega) dq_JInt_numberOfLeadingZeros_76 ?_
              refine qv_isub C (r := (((13 - ((x / 2 ^ 16) / 2 ^ 2) / 2 ^ 1) : Nat) : Int)) (by omega) dq_JInt_numberOfLeadingZeros_77 ?_
              refine qv_iret C hR ?_ dq_JInt_numberOfLeadingZeros_78 (by decide) (by decide)
              by_cases q : x / 262144 < 2
              · exact ⟨13, by omega, by omega, by omega, by omega, rfl⟩
              · exact ⟨12, by omega, by omega, by omega, by omega, rfl⟩
          · skip
            refine qv_iinc C (j := 1) (lv' := [(1, vi 11), (0, vi ((x / 2 ^ 16 : Nat) : Int))]) (by omega) rfl (by decide) rfl dq_JInt_numberOfLeadingZeros_54 ?_
            refine qv_iload_n C rfl dq_JInt_numberOfLeadingZeros_57 ?_
            refine qv_iconst C dq_JInt_numberOfLeadingZeros_58 ?_
            refine qv_iushr C (x / 2 ^ 16) 4 (by omega) (by omega) (by omega) (by omega) dq_JInt_numberOfLeadingZeros_59 ?_
            refine qv_istore_n C (lv' := [(0, vi (((x / 2 ^ 16) / 2 ^ 4 : Nat) : Int)), (1, vi 11)]) (by decide) rfl dq_JInt_numberOfLeadingZeros_60 ?_
            refine qv_iload_n C rfl dq_JInt_numberOfLeadingZeros_61 ?_
            refine qv_iconst C dq_JInt_numberOfLeadingZeros_62 ?_
            refine qv_iclt C (by omega) (by omega) (tgt := 73) (by decide) dq_JInt_numberOfLeadingZeros_63 (fun h63 => ?_) (fun h63 => ?_)
            · skip
              refine qv_iload_n C rfl dq_JInt_numberOfLeadingZeros_73 ?_
              refine qv_iload_n C rfl dq_JInt_numberOfLeadingZeros_74 ?_
              refine qv_iconst C dq_JInt_numberOfLeadingZeros_75 ?_
              refine qv_iushr C ((x / 2 ^ 16) / 2 ^ 4) 1 (by omega) (by omega) (by omega) (by omega) dq_JInt_numberOfLeadingZeros_76 ?_
              refine qv_isub C (r := (((11 - ((x / 2 ^ 16) / 2 ^ 4) / 2 ^ 1) : Nat) : Int)) (by omega) dq_JInt_numberOfLeadingZeros_77 ?_
              refine qv_iret C hR ?_ dq_JInt_numberOfLeadingZeros_78 (by decide) (by decide)
              by_cases q : x / 1048576 < 2
              · exact ⟨11, by omega, by omega, by omega, by omega, rfl⟩
              · exact ⟨10, by omega, by omega, by omega, by omega, rfl⟩
            · skip
              refine qv_iinc C (j := 1) (lv' := [(1, vi 9), (0, vi (((x / 2 ^ 16) / 2 ^ 4 : Nat) : Int))]) (by omega) rfl (by decide) rfl dq_JInt_numberOfLeadingZeros_66 ?_
              refine qv_iload_n C rfl dq_JInt_numberOfLeadingZeros_69 ?_
              refine qv_iconst C dq_JInt_numberOfLeadingZeros_70 ?_
              refine qv_iushr C ((x / 2 ^ 16) / 2 ^ 4) 2 (by omega) (by omega) (by omega) (by omega) dq_JInt_numberOfLeadingZeros_71 ?_
              refine qv_istore_n C (lv' := [(0, vi ((((x / 2 ^ 16) / 2 ^ 4) / 2 ^ 2 : Nat) : Int)), (1, vi 9)]) (by decide) rfl dq_JInt_numberOfLeadingZeros_72 ?_
              refine qv_iload_n C rfl dq_JInt_numberOfLeadingZeros_73 ?_
              refine qv_iload_n C rfl dq_JInt_numberOfLeadingZeros_74 ?_
              refine qv_iconst C dq_JInt_numberOfLeadingZeros_75 ?_
              refine qv_iushr C (((x / 2 ^ 16) / 2 ^ 4) / 2 ^ 2) 1 (by omega) (by omega) (by omega) (by omega) dq_JInt_numberOfLeadingZeros_76 ?_
              refine qv_isub C (r := (((9 - (((x / 2 ^ 16) / 2 ^ 4) / 2 ^ 2) / 2 ^ 1) : Nat) : Int)) (by omega) dq_JInt_numberOfLeadingZeros_77 ?_
              refine qv_iret C hR ?_ dq_JInt_numberOfLeadingZeros_78 (by decide) (by decide)
              by_cases q : x / 4194304 < 2
              · exact ⟨9, by omega, by omega, by omega, by omega, rfl⟩
              · exact ⟨8, by omega, by omega, by omega, by omega, rfl⟩
        · skip
          refine qv_iinc C (j := 1) (lv' := [(1, vi 7), (0, vi ((x / 2 ^ 16 : Nat) : Int))]) (by omega) rfl (by decide) rfl dq_JInt_numberOfLeadingZeros_40 ?_
          refine qv_iload_n C rfl dq_JInt_numberOfLeadingZeros_43 ?_
          refine qv_bipush C (by decide) dq_JInt_numberOfLeadingZeros_44 ?_
          refine qv_iushr C (x / 2 ^ 16) 8 (by omega) (by omega) (by omega) (by omega) dq_JInt_numberOfLeadingZeros_46 ?_
          refine qv_istore_n C (lv' := [(0, vi (((x / 2 ^ 16) / 2 ^ 8 : Nat) : Int)), (1, vi 7)]) (by decide) rfl dq_JInt_numberOfLeadingZeros_47 ?_
          refine qv_iload_n C rfl dq_JInt_numberOfLeadingZeros_48 ?_
          refine qv_bipush C (by decide) dq_JInt_numberOfLeadingZeros_49 ?_
          refine qv_iclt C (by omega) (by omega) (tgt := 61) (by decide) dq_JInt_numberOfLeadingZeros_51 (fun h51 => ?_) (fun h51 => ?_)
          · skip
            refine qv_iload_n C rfl dq_JInt_numberOfLeadingZeros_61 ?_
            refine qv_iconst C dq_JInt_numberOfLeadingZeros_62 ?_
            refine qv_iclt C (by omega) (by omega) (tgt := 73) (by decide) dq_JInt_numberOfLeadingZeros_63 (fun h63 => ?_) (fun h63 => ?_)
            · skip
              refine qv_iload_n C rfl dq_JInt_numberOfLeadingZeros_73 ?_
              refine qv_iload_n C rfl dq_JInt_numberOfLeadingZeros_74 ?_
              refine qv_iconst C dq_JInt_numberOfLeadingZeros_75 ?_
              refine qv_iushr C ((x / 2 ^ 16) / 2 ^ 8) 1 (by omega) (by omega) (by omega) (by omega) dq_JInt_numberOfLeadingZeros_76 ?_
              refine qv_isub C (r := (((7 - ((x / 2 ^ 16) / 2 ^ 8) / 2 ^ 1) : Nat) : Int)) (by omega) dq_JInt_numberOfLeadingZeros_77 ?_
              refine qv_iret C hR ?_ dq_JInt_numberOfLeadingZeros_78 (by decide) (by decide)
              by_cases q : x / 16777216 < 2
              · exact ⟨7, by omega, by omega, by omega, by omega, rfl⟩
              · exact ⟨6, by omega, by omega, by omega, by omega, rfl⟩
            · skip
              refine qv_iinc C (j := 1) (lv' := [(1, vi 5), (0, vi (((x / 2 ^ 16) / 2 ^ 8 : Nat) : Int))]) (by omega) rfl (by decide) rfl dq_JInt_numberOfLeadingZeros_66 ?_
              refine qv_iload_n C rfl dq_JInt_numberOfLeadingZeros_69 ?_
              refine qv_iconst C dq_JInt_numberOfLeadingZeros_70 ?_
              refine qv_iushr C ((x / 2 ^ 16) / 2 ^ 8) 2 (by omega) (by omega) (by omega) (by omega) dq_JInt_numberOfLeadingZeros_71 ?_
              refine qv_istore_n C (lv' := [(0, vi ((((x / 2 ^ 16) / 2 ^ 8) / 2 ^ 2 : Nat) : Int)), (1, vi 5)]) (by decide) rfl dq_JInt_numberOfLeadingZeros_72 ?_
              refine qv_iload_n C rfl dq_JInt_numberOfLeadingZeros_73 ?_
              refine qv_iload_n C rfl dq_JInt_numberOfLeadingZeros_74 ?_
              refine qv_iconst C dq_JInt_numberOfLeadingZeros_75 ?_
              refine qv_iushr C (((x / 2 ^ 16) / 2 ^ 8) / 2 ^ 2) 1 (by omega) (by omega) (by omega) (by omega) dq_JInt_numberOfLeadingZeros_76 ?_
              refine qv_isub C (r := (((5 - (((x / 2 ^ 16) / 2 ^ 8) / 2 ^ 2) / 2 ^ 1) : Nat) : Int)) (by omega) dq_JInt_numberOfLeadingZeros_77 ?_
              refine qv_iret C hR ?_ dq_JInt_numberOfLeadingZeros_78 (by decide) (by decide)
              by_cases q : x / 67108864 < 2
              · exact ⟨5, by omega, by omega, by omega, by omega, rfl⟩
              · exact ⟨4, by omega, by omega, by omega, by omega, rfl⟩
          · skip
            refine qv_iinc C (j := 1) (lv' := [(1, vi 3), (0, vi (((x / 2 ^ 16) / 2 ^ 8 : Nat) : Int))]) (by omega) rfl (by decide) rfl dq_JInt_numberOfLeadingZeros_54 ?_
            refine qv_iload_n C rfl dq_JInt_numberOfLeadingZeros_57 ?_
            refine qv_iconst C dq_JInt_numberOfLeadingZeros_58 ?_
            refine qv_iushr C ((x / 2 ^ 16) / 2 ^ 8) 4 (by omega) (by omega) (by omega) (by omega) dq_JInt_numberOfLeadingZeros_59 ?_
            refine qv_istore_n C (lv' := [(0, vi ((((x / 2 ^ 16) / 2 ^ 8) / 2 ^ 4 : Nat) : Int)), (1, vi 3)]) (by decide) rfl dq_JInt_numberOfLeadingZeros_60 ?_
            refine qv_iload_n C rfl dq_JInt_numberOfLeadingZeros_61 ?_
            refine qv_iconst C dq_JInt_numberOfLeadingZeros_62 ?_
            refine qv_iclt C (by omega) (by omega) (tgt := 73) (by decide) dq_JInt_numberOfLeadingZeros_63 (fun h63 => ?_) (fun h63 => ?_)
            · skip
              refine qv_iload_n C rfl dq_JInt_numberOfLeadingZeros_73 ?_
              refine qv_iload_n C rfl dq_JInt_numberOfLeadingZeros_74 ?_
              refine qv_iconst C dq_JInt_numberOfLeadingZeros_75 ?_
              refine qv_iushr C (((x / 2 ^ 16) / 2 ^ 8) / 2 ^ 4) 1 (by omega) (by omega) (by omega) (by omega) dq_JInt_numberOfLeadingZeros_76 ?_
              refine qv_isub C (r := (((3 - (((x / 2 ^ 16) / 2 ^ 8) / 2 ^ 4) / 2 ^ 1) : Nat) : Int)) (by omega) dq_JInt_numberOfLeadingZeros_77 ?_
              refine qv_iret C hR ?_ dq_JInt_numberOfLeadingZeros_78 (by decide) (by decide)
              by_cases q : x / 268435456 < 2
              · exact ⟨3, by omega, by omega, by omega, by omega, rfl⟩
              · exact ⟨2, by omega, by omega, by omega, by omega, rfl⟩
            · skip
              refine qv_iinc C (j := 1) (lv' := [(1, vi 1), (0, vi ((((x / 2 ^ 16) / 2 ^ 8) / 2 ^ 4 : Nat) : Int))]) (by omega) rfl (by decide) rfl dq_JInt_numberOfLeadingZeros_66 ?_
              refine qv_iload_n C rfl dq_JInt_numberOfLeadingZeros_69 ?_
              refine qv_iconst C dq_JInt_numberOfLeadingZeros_70 ?_
              refine qv_iushr C (((x / 2 ^ 16) / 2 ^ 8) / 2 ^ 4) 2 (by omega) (by omega) (by omega) (by omega) dq_JInt_numberOfLeadingZeros_71 ?_
              refine qv_istore_n C (lv' := [(0, vi (((((x / 2 ^ 16) / 2 ^ 8) / 2 ^ 4) / 2 ^ 2 : Nat) : Int)), (1, vi 1)]) (by decide) rfl dq_JInt_numberOfLeadingZeros_72 ?_
              refine qv_iload_n C rfl dq_JInt_numberOfLeadingZeros_73 ?_
              refine qv_iload_n C rfl dq_JInt_numberOfLeadingZeros_74 ?_
              refine qv_iconst C dq_JInt_numberOfLeadingZeros_75 ?_
              refine qv_iushr C ((((x / 2 ^ 16) / 2 ^ 8) / 2 ^ 4) / 2 ^ 2) 1 (by omega) (by omega) (by omega) (by omega) dq_JInt_numberOfLeadingZeros_76 ?_
              refine qv_isub C (r := (((1 - ((((x / 2 ^ 16) / 2 ^ 8) / 2 ^ 4) / 2 ^ 2) / 2 ^ 1) : Nat) : Int)) (by omega) dq_JInt_numberOfLeadingZeros_77 ?_
              refine qv_iret C hR ?_ dq_JInt_numberOfLeadingZeros_78 (by decide) (by decide)
              by_cases q : x / 1073741824 < 2
              · exact ⟨1, by omega, by omega, by omega, by omega, rfl⟩
              · exact ⟨0, by omega, by omega, by omega, by omega, rfl⟩
    · exfalso; omega
  · have e : vi ((x : Nat) : Int) = vi (((x : Nat) : Int) - 4294967296) := congrArg Value.int (zi_wraps _).symm
    rw [e]
    refine qv_iload_n C rfl dq_JInt_numberOfLeadingZeros_0 ?_
    refine qv_ifgt C (by omega) (tgt := 15) (by decide) dq_JInt_numberOfLeadingZeros_1 (fun h1 => ?_) (fun h1 => ?_)
    · exfalso; omega
    · skip
      refine qv_iload_n C rfl dq_JInt_numberOfLeadingZeros_4 ?_
      refine qv_ifne C (by omega) (tgt := 13) (by decide) dq_JInt_numberOfLeadingZeros_5 (fun h5 => ?_) (fun h5 => ?_)
      · skip
        refine qv_iconst C dq_JInt_numberOfLeadingZeros_13 ?_
        refine qv_iret C hR ?_ dq_JInt_numberOfLeadingZeros_14 (by decide) (by decide)
        exact ⟨0, rfl, by omega, by omega, by omega, rfl⟩
      · exfalso; omega

theorem c_JLon_numberOfLeadingZeros (cI cJ : ClassId) (x : Nat) (h0 : 0 < x) (hx : x < 4294967296) : MtI cI cJ ky_JLon_numberOfLeadingZeros kb_JLon_numberOfLeadingZeros 3 .int rm_JLon_numberOfLeadingZeros Xt [vj ((x : Nat) : Int)] [] (fun z u => ∃ n : Nat, z = ((32 + n : Nat) : Int) ∧ n ≤ 31 ∧ 2147483648 ≤ x * 2 ^ n ∧ x * 2 ^ n < 4294967296 ∧ u = []) := by
  refine MtI_in (by decide) (Nat.le_of_ble_eq_true rfl) (fun K C hR hX hN => ?_)
  show V K 3 [] 0 0 0 [(0, vj ((x : Nat) : Int))] []
  refine qv_lload_n C rfl dq_JLon_numberOfLeadingZeros_0 ?_
  refine qv_bipush C (by decide) dq_JLon_numberOfLeadingZeros_1 ?_
  refine qv_lushr C x 32 (by omega) (by omega) (by omega) (by omega) dq_JLon_numberOfLeadingZeros_3 ?_
  refine qv_l2i C dq_JLon_numberOfLeadingZeros_4 ?_
  refine qv_istore_n C (lv' := [(2, vi ((x / 2 ^ 32 : Nat) : Int)), (0, vj ((x : Nat) : Int))]) (by decide) rfl dq_JLon_numberOfLeadingZeros_5 ?_
  refine qv_iload_n C rfl dq_JLon_numberOfLeadingZeros_6 ?_
  refine qv_ifne C (by omega) (tgt := 21) (by decide) dq_JLon_numberOfLeadingZeros_7 (fun h7 => ?_) (fun h7 => ?_)
  · exfalso; omega
  · skip
    refine qv_bipush C (by decide) dq_JLon_numberOfLeadingZeros_10 ?_
    refine qv_lload_n C rfl dq_JLon_numberOfLeadingZeros_12 ?_
    refine qv_l2i C dq_JLon_numberOfLeadingZeros_13 ?_
    refine qc_sI (wr := []) (st := [vi 32]) C cl_JLon_308 cd_JInt_numberOfLeadingZeros (c_JInt_numberOfLeadingZeros cI cJ x h0 hx) (Xok_t K) Xbl_t [] [] rfl rfl (by decide) (by decide) (by decide) rfl rfl (Nat.le_of_ble_eq_true rfl) (by decide) (by decide) dq_JLon_numberOfLeadingZeros_14 (fun z u hu => ?_)
    obtain ⟨n, rfl, hn1, hn2, hn3, rfl⟩ := hu
    show V K 3 [] 0 0 17 [(2, vi ((x / 2 ^ 32 : Nat) : Int)), (0, vj ((x : Nat) : Int))] [vi ((n : Nat) : Int), vi 32]
    refine qv_iadd C (r := (((32 + n) : Nat) : Int)) (by omega) dq_JLon_numberOfLeadingZeros_17 ?_
    refine qv_goto C (tgt := 25) (by decide) dq_JLon_numberOfLeadingZeros_18 ?_
    refine qv_iret C hR ?_ dq_JLon_numberOfLeadingZeros_25 (by decide) (by decide)
    exact ⟨n, rfl, hn1, hn2, hn3, rfl⟩

theorem c_Wrd_firstThatIsNotZero (cI cJ : ClassId) (w wa : Nat) (hm : Bool) (W : Nat → Nat) (lim : Nat) (hW : ∀ i, W i < 4294967296) (hl : lim ≤ 70) : MtI cI cJ ky_Wrd_firstThatIsNotZero kb_Wrd_firstThatIsNotZero 3 .int rm_Wrd_firstThatIsNotZero Xt [.ref w, vi ((lim : Nat) : Int)] [oc w 2 [.ref wa, vi (b2 hm)], aj cJ wa 70 W] (fun z u => ∃ i : Nat, z = ((i : Nat) : Int) ∧ Wf W lim i ∧ u = ww cJ w wa hm W) := by
  refine MtI_in (by decide) (Nat.le_of_ble_eq_true rfl) (fun K C hR hX hN => ?_)
  show V K 3 [oc w 2 [.ref wa, vi (b2 hm)], aj cJ wa 70 W] 0 0 0 [(0, .ref w), (1, vi ((lim : Nat) : Int))] []
  have loop : ∀ n i, i + n = lim → (∀ j, j < i → W j = 0) → V K 3 [oc w 2 [.ref wa, vi (b2 hm)], aj cJ wa 70 W] 0 0 2 [(0, .ref w), (1, vi ((lim : Nat) : Int)), (2, vi ((i : Nat) : Int))] [] := by
    intro n
    induction n with
    | zero =>
      intro i hin hz
      refine qv_iload_n C rfl dq_Wrd_firstThatIsNotZero_2 ?_
      refine qv_iload_n C rfl dq_Wrd_firstThatIsNotZero_3 ?_
      refine qv_icge C (by omega) (by omega) (tgt := 24) (by decide) dq_Wrd_firstThatIsNotZero_4 (fun h4 => ?_) (fun h4 => ?_)
      · skip
        refine qv_iload_n C rfl dq_Wrd_firstThatIsNotZero_24 ?_
        refine qv_iret C hR ?_ dq_Wrd_firstThatIsNotZero_25 (by decide) (by decide)
        exact ⟨i, rfl, ⟨by omega, hz, fun q => by omega⟩, rfl⟩
      · exfalso; omega
    | succ n ih =>
      intro i hin hz
      have h9 := hW i
      refine qv_iload_n C rfl dq_Wrd_firstThatIsNotZero_2 ?_
      refine qv_iload_n C rfl dq_Wrd_firstThatIsNotZero_3 ?_
      refine qv_icge C (by omega) (by omega) (tgt := 24) (by decide) dq_Wrd_firstThatIsNotZero_4 (fun h4 => ?_) (fun h4 => ?_)
      · exfalso; omega
      · skip
        refine qv_aload_n C rfl dq_Wrd_firstThatIsNotZero_7 ?_
        refine qv_get C fl_Wrd_11 0 rfl rfl dq_Wrd_firstThatIsNotZero_8 ?_
        refine qv_iload_n C rfl dq_Wrd_firstThatIsNotZero_11 ?_
        refine qv_lald C 1 i rfl (by omega) (by omega) (by omega) dq_Wrd_firstThatIsNotZero_12 ?_
        refine qv_lconst C (z := 0) (by decide) dq_Wrd_firstThatIsNotZero_13 ?_
        refine qv_lcne C (by omega) (by omega) dq_Wrd_firstThatIsNotZero_14 (tgt := 24) (by decide) dq_Wrd_firstThatIsNotZero_15 (fun h14 => ?_) (fun h14 => ?_)
        · skip
          refine qv_iload_n C rfl dq_Wrd_firstThatIsNotZero_24 ?_
          refine qv_iret C hR ?_ dq_Wrd_firstThatIsNotZero_25 (by decide) (by decide)
          exact ⟨i, rfl, ⟨by omega, hz, fun q => by omega⟩, rfl⟩
        · skip
          refine qv_iinc C (j := 2) (lv' := [(2, vi (((i + 1) : Nat) : Int)), (0, .ref w), (1, vi ((lim : Nat) : Int))]) (by omega) rfl (by decide) rfl dq_Wrd_firstThatIsNotZero_18 ?_
          refine qv_goto C (tgt := 2) (by decide) dq_Wrd_firstThatIsNotZero_21 ?_
          refine qv_lv [1, 2, 0] (lv' := [(0, .ref w), (1, vi ((lim : Nat) : Int)), (2, vi (((i + 1) : Nat) : Int))]) rfl ?_
          exact ih (i + 1) (by omega) (fun j hj => by
            by_cases q : j = i
            · rw [q]; omega
            · exact hz j (by omega))
  refine qv_iconst C dq_Wrd_firstThatIsNotZero_0 ?_
  refine qv_istore_n C (lv' := [(2, vi 0), (0, .ref w), (1, vi ((lim : Nat) : Int))]) (by decide) rfl dq_Wrd_firstThatIsNotZero_1 ?_
  refine qv_lv [1, 2, 0] (lv' := [(0, .ref w), (1, vi ((lim : Nat) : Int)), (2, vi 0)]) rfl ?_
  exact loop lim 0 (by omega) (fun j hj => by omega)

theorem c_Wrd_isMoreFrom (cI cJ : ClassId) (w wa : Nat) (hm : Bool) (W : Nat → Nat) (st : Nat) (hW : ∀ i, W i < 4294967296) (hl : st ≤ 70) : MtI cI cJ ky_Wrd_isMoreFrom kb_Wrd_isMoreFrom 4 .boolean rm_Wrd_isMoreFrom Xt [.ref w, vi ((st : Nat) : Int)] [oc w 2 [.ref wa, vi (b2 hm)], aj cJ wa 70 W] (fun z u => ∃ mo : Bool, z = b2 mo ∧ (mo = true ↔ hm = true ∨ ∃ j, st ≤ j ∧ j < 67 ∧ W j ≠ 0) ∧ u = ww cJ w wa hm W) := by
  refine MtI_in (by decide) (Nat.le_of_ble_eq_true rfl) (fun K C hR hX hN => ?_)
  show V K 4 [oc w 2 [.ref wa, vi (b2 hm)], aj cJ wa 70 W] 0 0 0 [(0, .ref w), (1, vi ((st : Nat) : Int))] []
  have loop : ∀ n i (mo : Bool), i + n = max st 67 → st ≤ i → (mo = true ↔ hm = true ∨ ∃ j, st ≤ j ∧ j < i ∧ W j ≠ 0) → V K 4 [oc w 2 [.ref wa, vi (b2 hm)], aj cJ wa 70 W] 0 0 7 [(0, .ref w), (1, vi ((st : Nat) : Int)), (2, vi (b2 mo)), (3, vi ((i : Nat) : Int))] [] := by
    intro n
    induction n with
    | zero =>
      intro i mo hin hsi hmo
      refine qv_iload_n C rfl dq_Wrd_isMoreFrom_7 ?_
      refine qv_bipush C (by decide) dq_Wrd_isMoreFrom_8 ?_
      refine qv_icge C (by omega) (by omega) (tgt := 40) (by decide) dq_Wrd_isMoreFrom_10 (fun h10 => ?_) (fun h10 => ?_)
      · skip
        refine qv_iload_n C rfl dq_Wrd_isMoreFrom_40 ?_
        refine qv_zret (b := mo) C hR ?_ dq_Wrd_isMoreFrom_41 (by decide) (by decide)
        refine ⟨mo, rfl, ⟨fun _ => ?_, fun q => hmo.mpr (q.imp id (fun ⟨j, a, b, c⟩ => ⟨j, a, by omega, c⟩))⟩, rfl⟩
        have q := hmo.mp (by assumption)
        rcases q with q | ⟨j, a, b, c⟩
        · exact Or.inl q
        · exact Or.inr ⟨j, a, by omega, c⟩
      · exfalso; omega
    | succ n ih =>
      intro i mo hin hsi hmo
      have h9 := hW i
      refine qv_iload_n C rfl dq_Wrd_isMoreFrom_7 ?_
      refine qv_bipush C (by decide) dq_Wrd_isMoreFrom_8 ?_
      refine qv_icge C (by omega) (by omega) (tgt := 40) (by decide) dq_Wrd_isMoreFrom_10 (fun h10 => ?_) (fun h10 => ?_)
      · exfalso; omega
      · skip
        refine qv_iload_n C rfl dq_Wrd_isMoreFrom_13 ?_
        refine qv_ifne C (rb_b2 mo) (tgt := 40) (by decide) dq_Wrd_isMoreFrom_14 (fun h14 => ?_) (fun h14 => ?_)
        · skip
          refine qv_iload_n C rfl dq_Wrd_isMoreFrom_40 ?_
          refine qv_zret (b := mo) C hR ?_ dq_Wrd_isMoreFrom_41 (by decide) (by decide)
          have em := b2_t h14
          refine ⟨mo, rfl, ⟨fun _ => ?_, fun _ => em⟩, rfl⟩
          rcases hmo.mp em with q | ⟨j, a, b, c⟩
          · exact Or.inl q
          · exact Or.inr ⟨j, a, by omega, c⟩
        · skip
          refine qv_aload_n C rfl dq_Wrd_isMoreFrom_17 ?_
          refine qv_get C fl_Wrd_11 0 rfl rfl dq_Wrd_isMoreFrom_18 ?_
          refine qv_iload_n C rfl dq_Wrd_isMoreFrom_21 ?_
          refine qv_lald C 1 i rfl (by omega) (by omega) (by omega) dq_Wrd_isMoreFrom_22 ?_
          refine qv_lconst C (z := 0) (by decide) dq_Wrd_isMoreFrom_23 ?_
          refine qv_lceq C (by omega) (by omega) dq_Wrd_isMoreFrom_24 (tgt := 32) (by decide) dq_Wrd_isMoreFrom_25 (fun h24 => ?_) (fun h24 => ?_)
          · skip
            refine qv_iconst C dq_Wrd_isMoreFrom_32 ?_
            refine qv_istore_n C (lv' := [(2, vi 0), (0, .ref w), (1, vi ((st : Nat) : Int)), (3, vi ((i : Nat) : Int))]) (by decide) rfl dq_Wrd_isMoreFrom_33 ?_
            refine qv_iinc C (j := 3) (lv' := [(3, vi (((i + 1) : Nat) : Int)), (2, vi 0), (0, .ref w), (1, vi ((st : Nat) : Int))]) (by omega) rfl (by decide) rfl dq_Wrd_isMoreFrom_34 ?_
            refine qv_goto C (tgt := 7) (by decide) dq_Wrd_isMoreFrom_37 ?_
            refine qv_lv [2, 3, 1, 0] (lv' := [(0, .ref w), (1, vi ((st : Nat) : Int)), (2, vi 0), (3, vi (((i + 1) : Nat) : Int))]) rfl ?_
            have em := b2_f h14
            have hno : ¬ (hm = true ∨ ∃ j, st ≤ j ∧ j < i ∧ W j ≠ 0) := fun q => by rw [hmo.mpr q] at em; cases em
            exact ih (i + 1) false (by omega) (by omega) ⟨fun q => (by cases q), fun q => (by
              exfalso
              rcases q with q | ⟨j, a, b, c⟩
              · exact hno (Or.inl q)
              · by_cases z : j = i
                · rw [z] at c; omega
                · exact hno (Or.inr ⟨j, a, by omega, c⟩))⟩
          · skip
            refine qv_iconst C dq_Wrd_isMoreFrom_28 ?_
            refine qv_goto C (tgt := 33) (by decide) dq_Wrd_isMoreFrom_29 ?_
            refine qv_istore_n C (lv' := [(2, vi 1), (0, .ref w), (1, vi ((st : Nat) : Int)), (3, vi ((i : Nat) : Int))]) (by decide) rfl dq_Wrd_isMoreFrom_33 ?_
            refine qv_iinc C (j := 3) (lv' := [(3, vi (((i + 1) : Nat) : Int)), (2, vi 1), (0, .ref w), (1, vi ((st : Nat) : Int))]) (by omega) rfl (by decide) rfl dq_Wrd_isMoreFrom_34 ?_
            refine qv_goto C (tgt := 7) (by decide) dq_Wrd_isMoreFrom_37 ?_
            refine qv_lv [2, 3, 1, 0] (lv' := [(0, .ref w), (1, vi ((st : Nat) : Int)), (2, vi 1), (3, vi (((i + 1) : Nat) : Int))]) rfl ?_
            have em := b2_f h14
            have hno : ¬ (hm = true ∨ ∃ j, st ≤ j ∧ j < i ∧ W j ≠ 0) := fun q => by rw [hmo.mpr q] at em; cases em
            exact ih (i + 1) true (by omega) (by omega) ⟨fun _ => Or.inr ⟨i, by omega, by omega, by omega⟩, fun _ => rfl⟩
  refine qv_aload_n C rfl dq_Wrd_isMoreFrom_0 ?_
  refine qv_get C fl_Wrd_38 0 rfl rfl dq_Wrd_isMoreFrom_1 ?_
  refine qv_istore_n C (lv' := [(2, vi (b2 hm)), (0, .ref w), (1, vi ((st : Nat) : Int))]) (by decide) rfl dq_Wrd_isMoreFrom_4 ?_
  refine qv_iload_n C rfl dq_Wrd_isMoreFrom_5 ?_
  refine qv_istore_n C (lv' := [(3, vi ((st : Nat) : Int)), (2, vi (b2 hm)), (0, .ref w), (1, vi ((st : Nat) : Int))]) (by decide) rfl dq_Wrd_isMoreFrom_6 ?_
  refine qv_lv [2, 3, 1, 0] (lv' := [(0, .ref w), (1, vi ((st : Nat) : Int)), (2, vi (b2 hm)), (3, vi ((st : Nat) : Int))]) rfl ?_
  exact loop (max st 67 - st) st hm (by omega) (Nat.le_refl _) ⟨fun q => Or.inl q, fun q => q.elim id (fun ⟨j, a, b, _⟩ => by omega)⟩

