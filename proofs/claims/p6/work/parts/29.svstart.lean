abbrev fl_1 : List Cond := flatC (Jvm.Cond.and given_1 narrow_1)
abbrev tS (i : Nat) : Term := Term.string "NestedTags" (idxS.getD i 0)
abbrev vS (i : Nat) : Term := Term.field (tS i) "java/lang/String" "value" "[B"
theorem f_ex : ∀ i : Nat, i < 19 → Cond.exactly (tS i) "java/lang/String" ∈ fl_1 := by decide +kernel
theorem f_co : ∀ i : Nat, i < 19 → Cond.eq (.field (tS i) "java/lang/String" "coder" "B") (.int 0) ∈ fl_1 := by decide +kernel
theorem f_ar : ∀ i : Nat, i < 19 → Cond.arrayOf (vS i) .byte ∈ fl_1 := by decide +kernel
theorem f_le : ∀ i : Nat, i < 19 → Cond.eq (.length (vS i)) (.int (Int32.ofNat (lenS.getD i 0))) ∈ fl_1 := by decide +kernel
theorem f_el : ∀ i : Nat, i < 19 → ∀ j : Nat, j < lenS.getD i 0 → Cond.eq (.elem (vS i) (.int (Int32.ofNat j))) (.int ((bytS.getD i []).getD j 0)) ∈ fl_1 := by decide +kernel
theorem fn_0_1 : Cond.not (Cond.eq (Term.string "NestedTags" 197) (Term.string "NestedTags" 205)) ∈ fl_1 := List.mem_of_getElem? (i := 19) rfl
theorem fn_0_2 : Cond.not (Cond.eq (Term.string "NestedTags" 197) (Term.string "NestedTags" 270)) ∈ fl_1 := List.mem_of_getElem? (i := 26) rfl
theorem fn_0_3 : Cond.not (Cond.eq (Term.string "NestedTags" 197) (Term.string "NestedTags" 276)) ∈ fl_1 := List.mem_of_getElem? (i := 34) rfl
theorem fn_0_4 : Cond.not (Cond.eq (Term.string "NestedTags" 197) (Term.string "NestedTags" 278)) ∈ fl_1 := List.mem_of_getElem? (i := 44) rfl
theorem fn_0_5 : Cond.not (Cond.eq (Term.string "NestedTags" 197) (Term.string "NestedTags" 280)) ∈ fl_1 := List.mem_of_getElem? (i := 56) rfl
theorem fn_0_6 : Cond.not (Cond.eq (Term.string "NestedTags" 197) (Term.string "NestedTags" 282)) ∈ fl_1 := List.mem_of_getElem? (i := 69) rfl
theorem fn_0_7 : Cond.not (Cond.eq (Term.string "NestedTags" 197) (Term.string "NestedTags" 265)) ∈ fl_1 := List.mem_of_getElem? (i := 80) rfl
theorem fn_0_8 : Cond.not (Cond.eq (Term.string "NestedTags" 197) (Term.string "NestedTags" 176)) ∈ fl_1 := List.mem_of_getElem? (i := 92) rfl
theorem fn_0_9 : Cond.not (Cond.eq (Term.string "NestedTags" 197) (Term.string "NestedTags" 254)) ∈ fl_1 := List.mem_of_getElem? (i := 106) rfl
theorem fn_0_10 : Cond.not (Cond.eq (Term.string "NestedTags" 197) (Term.string "NestedTags" 149)) ∈ fl_1 := List.mem_of_getElem? (i := 121) rfl
theorem fn_0_11 : Cond.not (Cond.eq (Term.string "NestedTags" 197) (Term.string "NestedTags" 164)) ∈ fl_1 := List.mem_of_getElem? (i := 137) rfl
theorem fn_0_12 : Cond.not (Cond.eq (Term.string "NestedTags" 197) (Term.string "NestedTags" 172)) ∈ fl_1 := List.mem_of_getElem? (i := 156) rfl
theorem fn_0_13 : Cond.not (Cond.eq (Term.string "NestedTags" 197) (Term.string "NestedTags" 174)) ∈ fl_1 := List.mem_of_getElem? (i := 174) rfl
theorem fn_0_14 : Cond.not (Cond.eq (Term.string "NestedTags" 197) (Term.string "NestedTags" 178)) ∈ fl_1 := List.mem_of_getElem? (i := 200) rfl
theorem fn_0_15 : Cond.not (Cond.eq (Term.string "NestedTags" 197) (Term.string "NestedTags" 180)) ∈ fl_1 := List.mem_of_getElem? (i := 221) rfl
theorem fn_0_16 : Cond.not (Cond.eq (Term.string "NestedTags" 197) (Term.string "NestedTags" 213)) ∈ fl_1 := List.mem_of_getElem? (i := 242) rfl
theorem fn_0_17 : Cond.not (Cond.eq (Term.string "NestedTags" 197) (Term.string "NestedTags" 228)) ∈ fl_1 := List.mem_of_getElem? (i := 263) rfl
theorem fn_0_18 : Cond.not (Cond.eq (Term.string "NestedTags" 197) (Term.string "NestedTags" 188)) ∈ fl_1 := List.mem_of_getElem? (i := 286) rfl
theorem fn_1_2 : Cond.not (Cond.eq (Term.string "NestedTags" 205) (Term.string "NestedTags" 270)) ∈ fl_1 := List.mem_of_getElem? (i := 27) rfl
theorem fn_1_3 : Cond.not (Cond.eq (Term.string "NestedTags" 205) (Term.string "NestedTags" 276)) ∈ fl_1 := List.mem_of_getElem? (i := 35) rfl
theorem fn_1_4 : Cond.not (Cond.eq (Term.string "NestedTags" 205) (Term.string "NestedTags" 278)) ∈ fl_1 := List.mem_of_getElem? (i := 45) rfl
theorem fn_1_5 : Cond.not (Cond.eq (Term.string "NestedTags" 205) (Term.string "NestedTags" 280)) ∈ fl_1 := List.mem_of_getElem? (i := 57) rfl
theorem fn_1_6 : Cond.not (Cond.eq (Term.string "NestedTags" 205) (Term.string "NestedTags" 282)) ∈ fl_1 := List.mem_of_getElem? (i := 70) rfl
theorem fn_1_7 : Cond.not (Cond.eq (Term.string "NestedTags" 205) (Term.string "NestedTags" 265)) ∈ fl_1 := List.mem_of_getElem? (i := 81) rfl
theorem fn_1_8 : Cond.not (Cond.eq (Term.string "NestedTags" 205) (Term.string "NestedTags" 176)) ∈ fl_1 := List.mem_of_getElem? (i := 93) rfl
theorem fn_1_9 : Cond.not (Cond.eq (Term.string "NestedTags" 205) (Term.string "NestedTags" 254)) ∈ fl_1 := List.mem_of_getElem? (i := 107) rfl
theorem fn_1_10 : Cond.not (Cond.eq (Term.string "NestedTags" 205) (Term.string "NestedTags" 149)) ∈ fl_1 := List.mem_of_getElem? (i := 122) rfl
theorem fn_1_11 : Cond.not (Cond.eq (Term.string "NestedTags" 205) (Term.string "NestedTags" 164)) ∈ fl_1 := List.mem_of_getElem? (i := 138) rfl
theorem fn_1_12 : Cond.not (Cond.eq (Term.string "NestedTags" 205) (Term.string "NestedTags" 172)) ∈ fl_1 := List.mem_of_getElem? (i := 157) rfl
theorem fn_1_13 : Cond.not (Cond.eq (Term.string "NestedTags" 205) (Term.string "NestedTags" 174)) ∈ fl_1 := List.mem_of_getElem? (i := 175) rfl
theorem fn_1_14 : Cond.not (Cond.eq (Term.string "NestedTags" 205) (Term.string "NestedTags" 178)) ∈ fl_1 := List.mem_of_getElem? (i := 201) rfl
theorem fn_1_15 : Cond.not (Cond.eq (Term.string "NestedTags" 205) (Term.string "NestedTags" 180)) ∈ fl_1 := List.mem_of_getElem? (i := 222) rfl
theorem fn_1_16 : Cond.not (Cond.eq (Term.string "NestedTags" 205) (Term.string "NestedTags" 213)) ∈ fl_1 := List.mem_of_getElem? (i := 243) rfl
theorem fn_1_17 : Cond.not (Cond.eq (Term.string "NestedTags" 205) (Term.string "NestedTags" 228)) ∈ fl_1 := List.mem_of_getElem? (i := 264) rfl
theorem fn_1_18 : Cond.not (Cond.eq (Term.string "NestedTags" 205) (Term.string "NestedTags" 188)) ∈ fl_1 := List.mem_of_getElem? (i := 287) rfl
theorem fn_2_3 : Cond.not (Cond.eq (Term.string "NestedTags" 270) (Term.string "NestedTags" 276)) ∈ fl_1 := List.mem_of_getElem? (i := 36) rfl
theorem fn_2_4 : Cond.not (Cond.eq (Term.string "NestedTags" 270) (Term.string "NestedTags" 278)) ∈ fl_1 := List.mem_of_getElem? (i := 46) rfl
theorem fn_2_5 : Cond.not (Cond.eq (Term.string "NestedTags" 270) (Term.string "NestedTags" 280)) ∈ fl_1 := List.mem_of_getElem? (i := 58) rfl
theorem fn_2_6 : Cond.not (Cond.eq (Term.string "NestedTags" 270) (Term.string "NestedTags" 282)) ∈ fl_1 := List.mem_of_getElem? (i := 71) rfl
theorem fn_2_7 : Cond.not (Cond.eq (Term.string "NestedTags" 270) (Term.string "NestedTags" 265)) ∈ fl_1 := List.mem_of_getElem? (i := 82) rfl
theorem fn_2_8 : Cond.not (Cond.eq (Term.string "NestedTags" 270) (Term.string "NestedTags" 176)) ∈ fl_1 := List.mem_of_getElem? (i := 94) rfl
theorem fn_2_9 : Cond.not (Cond.eq (Term.string "NestedTags" 270) (Term.string "NestedTags" 254)) ∈ fl_1 := List.mem_of_getElem? (i := 108) rfl
theorem fn_2_10 : Cond.not (Cond.eq (Term.string "NestedTags" 270) (Term.string "NestedTags" 149)) ∈ fl_1 := List.mem_of_getElem? (i := 123) rfl
theorem fn_2_11 : Cond.not (Cond.eq (Term.string "NestedTags" 270) (Term.string "NestedTags" 164)) ∈ fl_1 := List.mem_of_getElem? (i := 139) rfl
theorem fn_2_12 : Cond.not (Cond.eq (Term.string "NestedTags" 270) (Term.string "NestedTags" 172)) ∈ fl_1 := List.mem_of_getElem? (i := 158) rfl
theorem fn_2_13 : Cond.not (Cond.eq (Term.string "NestedTags" 270) (Term.string "NestedTags" 174)) ∈ fl_1 := List.mem_of_getElem? (i := 176) rfl
theorem fn_2_14 : Cond.not (Cond.eq (Term.string "NestedTags" 270) (Term.string "NestedTags" 178)) ∈ fl_1 := List.mem_of_getElem? (i := 202) rfl
theorem fn_2_15 : Cond.not (Cond.eq (Term.string "NestedTags" 270) (Term.string "NestedTags" 180)) ∈ fl_1 := List.mem_of_getElem? (i := 223) rfl
theorem fn_2_16 : Cond.not (Cond.eq (Term.string "NestedTags" 270) (Term.string "NestedTags" 213)) ∈ fl_1 := List.mem_of_getElem? (i := 244) rfl
theorem fn_2_17 : Cond.not (Cond.eq (Term.string "NestedTags" 270) (Term.string "NestedTags" 228)) ∈ fl_1 := List.mem_of_getElem? (i := 265) rfl
theorem fn_2_18 : Cond.not (Cond.eq (Term.string "NestedTags" 270) (Term.string "NestedTags" 188)) ∈ fl_1 := List.mem_of_getElem? (i := 288) rfl
theorem fn_3_4 : Cond.not (Cond.eq (Term.string "NestedTags" 276) (Term.string "NestedTags" 278)) ∈ fl_1 := List.mem_of_getElem? (i := 47) rfl
theorem fn_3_5 : Cond.not (Cond.eq (Term.string "NestedTags" 276) (Term.string "NestedTags" 280)) ∈ fl_1 := List.mem_of_getElem? (i := 59) rfl
theorem fn_3_6 : Cond.not (Cond.eq (Term.string "NestedTags" 276) (Term.string "NestedTags" 282)) ∈ fl_1 := List.mem_of_getElem? (i := 72) rfl
theorem fn_3_7 : Cond.not (Cond.eq (Term.string "NestedTags" 276) (Term.string "NestedTags" 265)) ∈ fl_1 := List.mem_of_getElem? (i := 83) rfl
theorem fn_3_8 : Cond.not (Cond.eq (Term.string "NestedTags" 276) (Term.string "NestedTags" 176)) ∈ fl_1 := List.mem_of_getElem? (i := 95) rfl
theorem fn_3_9 : Cond.not (Cond.eq (Term.string "NestedTags" 276) (Term.string "NestedTags" 254)) ∈ fl_1 := List.mem_of_getElem? (i := 109) rfl
theorem fn_3_10 : Cond.not (Cond.eq (Term.string "NestedTags" 276) (Term.string "NestedTags" 149)) ∈ fl_1 := List.mem_of_getElem? (i := 124) rfl
theorem fn_3_11 : Cond.not (Cond.eq (Term.string "NestedTags" 276) (Term.string "NestedTags" 164)) ∈ fl_1 := List.mem_of_getElem? (i := 140) rfl
theorem fn_3_12 : Cond.not (Cond.eq (Term.string "NestedTags" 276) (Term.string "NestedTags" 172)) ∈ fl_1 := List.mem_of_getElem? (i := 159) rfl
theorem fn_3_13 : Cond.not (Cond.eq (Term.string "NestedTags" 276) (Term.string "NestedTags" 174)) ∈ fl_1 := List.mem_of_getElem? (i := 177) rfl
theorem fn_3_14 : Cond.not (Cond.eq (Term.string "NestedTags" 276) (Term.string "NestedTags" 178)) ∈ fl_1 := List.mem_of_getElem? (i := 203) rfl
theorem fn_3_15 : Cond.not (Cond.eq (Term.string "NestedTags" 276) (Term.string "NestedTags" 180)) ∈ fl_1 := List.mem_of_getElem? (i := 224) rfl
theorem fn_3_16 : Cond.not (Cond.eq (Term.string "NestedTags" 276) (Term.string "NestedTags" 213)) ∈ fl_1 := List.mem_of_getElem? (i := 245) rfl
theorem fn_3_17 : Cond.not (Cond.eq (Term.string "NestedTags" 276) (Term.string "NestedTags" 228)) ∈ fl_1 := List.mem_of_getElem? (i := 266) rfl
theorem fn_3_18 : Cond.not (Cond.eq (Term.string "NestedTags" 276) (Term.string "NestedTags" 188)) ∈ fl_1 := List.mem_of_getElem? (i := 289) rfl
theorem fn_4_5 : Cond.not (Cond.eq (Term.string "NestedTags" 278) (Term.string "NestedTags" 280)) ∈ fl_1 := List.mem_of_getElem? (i := 60) rfl
theorem fn_4_6 : Cond.not (Cond.eq (Term.string "NestedTags" 278) (Term.string "NestedTags" 282)) ∈ fl_1 := List.mem_of_getElem? (i := 73) rfl
theorem fn_4_7 : Cond.not (Cond.eq (Term.string "NestedTags" 278) (Term.string "NestedTags" 265)) ∈ fl_1 := List.mem_of_getElem? (i := 84) rfl
theorem fn_4_8 : Cond.not (Cond.eq (Term.string "NestedTags" 278) (Term.string "NestedTags" 176)) ∈ fl_1 := List.mem_of_getElem? (i := 96) rfl
theorem fn_4_9 : Cond.not (Cond.eq (Term.string "NestedTags" 278) (Term.string "NestedTags" 254)) ∈ fl_1 := List.mem_of_getElem? (i := 110) rfl
theorem fn_4_10 : Cond.not (Cond.eq (Term.string "NestedTags" 278) (Term.string "NestedTags" 149)) ∈ fl_1 := List.mem_of_getElem? (i := 125) rfl
theorem fn_4_11 : Cond.not (Cond.eq (Term.string "NestedTags" 278) (Term.string "NestedTags" 164)) ∈ fl_1 := List.mem_of_getElem? (i := 141) rfl
theorem fn_4_12 : Cond.not (Cond.eq (Term.string "NestedTags" 278) (Term.string "NestedTags" 172)) ∈ fl_1 := List.mem_of_getElem? (i := 160) rfl
theorem fn_4_13 : Cond.not (Cond.eq (Term.string "NestedTags" 278) (Term.string "NestedTags" 174)) ∈ fl_1 := List.mem_of_getElem? (i := 178) rfl
theorem fn_4_14 : Cond.not (Cond.eq (Term.string "NestedTags" 278) (Term.string "NestedTags" 178)) ∈ fl_1 := List.mem_of_getElem? (i := 204) rfl
theorem fn_4_15 : Cond.not (Cond.eq (Term.string "NestedTags" 278) (Term.string "NestedTags" 180)) ∈ fl_1 := List.mem_of_getElem? (i := 225) rfl
theorem fn_4_16 : Cond.not (Cond.eq (Term.string "NestedTags" 278) (Term.string "NestedTags" 213)) ∈ fl_1 := List.mem_of_getElem? (i := 246) rfl
theorem fn_4_17 : Cond.not (Cond.eq (Term.string "NestedTags" 278) (Term.string "NestedTags" 228)) ∈ fl_1 := List.mem_of_getElem? (i := 267) rfl
theorem fn_4_18 : Cond.not (Cond.eq (Term.string "NestedTags" 278) (Term.string "NestedTags" 188)) ∈ fl_1 := List.mem_of_getElem? (i := 290) rfl
theorem fn_5_6 : Cond.not (Cond.eq (Term.string "NestedTags" 280) (Term.string "NestedTags" 282)) ∈ fl_1 := List.mem_of_getElem? (i := 74) rfl
theorem fn_5_7 : Cond.not (Cond.eq (Term.string "NestedTags" 280) (Term.string "NestedTags" 265)) ∈ fl_1 := List.mem_of_getElem? (i := 85) rfl
theorem fn_5_8 : Cond.not (Cond.eq (Term.string "NestedTags" 280) (Term.string "NestedTags" 176)) ∈ fl_1 := List.mem_of_getElem? (i := 97) rfl
theorem fn_5_9 : Cond.not (Cond.eq (Term.string "NestedTags" 280) (Term.string "NestedTags" 254)) ∈ fl_1 := List.mem_of_getElem? (i := 111) rfl
theorem fn_5_10 : Cond.not (Cond.eq (Term.string "NestedTags" 280) (Term.string "NestedTags" 149)) ∈ fl_1 := List.mem_of_getElem? (i := 126) rfl
theorem fn_5_11 : Cond.not (Cond.eq (Term.string "NestedTags" 280) (Term.string "NestedTags" 164)) ∈ fl_1 := List.mem_of_getElem? (i := 142) rfl
theorem fn_5_12 : Cond.not (Cond.eq (Term.string "NestedTags" 280) (Term.string "NestedTags" 172)) ∈ fl_1 := List.mem_of_getElem? (i := 161) rfl
theorem fn_5_13 : Cond.not (Cond.eq (Term.string "NestedTags" 280) (Term.string "NestedTags" 174)) ∈ fl_1 := List.mem_of_getElem? (i := 179) rfl
theorem fn_5_14 : Cond.not (Cond.eq (Term.string "NestedTags" 280) (Term.string "NestedTags" 178)) ∈ fl_1 := List.mem_of_getElem? (i := 205) rfl
theorem fn_5_15 : Cond.not (Cond.eq (Term.string "NestedTags" 280) (Term.string "NestedTags" 180)) ∈ fl_1 := List.mem_of_getElem? (i := 226) rfl
theorem fn_5_16 : Cond.not (Cond.eq (Term.string "NestedTags" 280) (Term.string "NestedTags" 213)) ∈ fl_1 := List.mem_of_getElem? (i := 247) rfl
theorem fn_5_17 : Cond.not (Cond.eq (Term.string "NestedTags" 280) (Term.string "NestedTags" 228)) ∈ fl_1 := List.mem_of_getElem? (i := 268) rfl
theorem fn_5_18 : Cond.not (Cond.eq (Term.string "NestedTags" 280) (Term.string "NestedTags" 188)) ∈ fl_1 := List.mem_of_getElem? (i := 291) rfl
theorem fn_6_7 : Cond.not (Cond.eq (Term.string "NestedTags" 282) (Term.string "NestedTags" 265)) ∈ fl_1 := List.mem_of_getElem? (i := 86) rfl
theorem fn_6_8 : Cond.not (Cond.eq (Term.string "NestedTags" 282) (Term.string "NestedTags" 176)) ∈ fl_1 := List.mem_of_getElem? (i := 98) rfl
theorem fn_6_9 : Cond.not (Cond.eq (Term.string "NestedTags" 282) (Term.string "NestedTags" 254)) ∈ fl_1 := List.mem_of_getElem? (i := 112) rfl
theorem fn_6_10 : Cond.not (Cond.eq (Term.string "NestedTags" 282) (Term.string "NestedTags" 149)) ∈ fl_1 := List.mem_of_getElem? (i := 127) rfl
theorem fn_6_11 : Cond.not (Cond.eq (Term.string "NestedTags" 282) (Term.string "NestedTags" 164)) ∈ fl_1 := List.mem_of_getElem? (i := 143) rfl
theorem fn_6_12 : Cond.not (Cond.eq (Term.string "NestedTags" 282) (Term.string "NestedTags" 172)) ∈ fl_1 := List.mem_of_getElem? (i := 162) rfl
theorem fn_6_13 : Cond.not (Cond.eq (Term.string "NestedTags" 282) (Term.string "NestedTags" 174)) ∈ fl_1 := List.mem_of_getElem? (i := 180) rfl
theorem fn_6_14 : Cond.not (Cond.eq (Term.string "NestedTags" 282) (Term.string "NestedTags" 178)) ∈ fl_1 := List.mem_of_getElem? (i := 206) rfl
theorem fn_6_15 : Cond.not (Cond.eq (Term.string "NestedTags" 282) (Term.string "NestedTags" 180)) ∈ fl_1 := List.mem_of_getElem? (i := 227) rfl
theorem fn_6_16 : Cond.not (Cond.eq (Term.string "NestedTags" 282) (Term.string "NestedTags" 213)) ∈ fl_1 := List.mem_of_getElem? (i := 248) rfl
theorem fn_6_17 : Cond.not (Cond.eq (Term.string "NestedTags" 282) (Term.string "NestedTags" 228)) ∈ fl_1 := List.mem_of_getElem? (i := 269) rfl
theorem fn_6_18 : Cond.not (Cond.eq (Term.string "NestedTags" 282) (Term.string "NestedTags" 188)) ∈ fl_1 := List.mem_of_getElem? (i := 292) rfl
theorem fn_7_8 : Cond.not (Cond.eq (Term.string "NestedTags" 265) (Term.string "NestedTags" 176)) ∈ fl_1 := List.mem_of_getElem? (i := 99) rfl
theorem fn_7_9 : Cond.not (Cond.eq (Term.string "NestedTags" 265) (Term.string "NestedTags" 254)) ∈ fl_1 := List.mem_of_getElem? (i := 113) rfl
theorem fn_7_10 : Cond.not (Cond.eq (Term.string "NestedTags" 265) (Term.string "NestedTags" 149)) ∈ fl_1 := List.mem_of_getElem? (i := 128) rfl
theorem fn_7_11 : Cond.not (Cond.eq (Term.string "NestedTags" 265) (Term.string "NestedTags" 164)) ∈ fl_1 := List.mem_of_getElem? (i := 144) rfl
theorem fn_7_12 : Cond.not (Cond.eq (Term.string "NestedTags" 265) (Term.string "NestedTags" 172)) ∈ fl_1 := List.mem_of_getElem? (i := 163) rfl
theorem fn_7_13 : Cond.not (Cond.eq (Term.string "NestedTags" 265) (Term.string "NestedTags" 174)) ∈ fl_1 := List.mem_of_getElem? (i := 181) rfl
theorem fn_7_14 : Cond.not (Cond.eq (Term.string "NestedTags" 265) (Term.string "NestedTags" 178)) ∈ fl_1 := List.mem_of_getElem? (i := 207) rfl
theorem fn_7_15 : Cond.not (Cond.eq (Term.string "NestedTags" 265) (Term.string "NestedTags" 180)) ∈ fl_1 := List.mem_of_getElem? (i := 228) rfl
theorem fn_7_16 : Cond.not (Cond.eq (Term.string "NestedTags" 265) (Term.string "NestedTags" 213)) ∈ fl_1 := List.mem_of_getElem? (i := 249) rfl
theorem fn_7_17 : Cond.not (Cond.eq (Term.string "NestedTags" 265) (Term.string "NestedTags" 228)) ∈ fl_1 := List.mem_of_getElem? (i := 270) rfl
theorem fn_7_18 : Cond.not (Cond.eq (Term.string "NestedTags" 265) (Term.string "NestedTags" 188)) ∈ fl_1 := List.mem_of_getElem? (i := 293) rfl
theorem fn_8_9 : Cond.not (Cond.eq (Term.string "NestedTags" 176) (Term.string "NestedTags" 254)) ∈ fl_1 := List.mem_of_getElem? (i := 114) rfl
theorem fn_8_10 : Cond.not (Cond.eq (Term.string "NestedTags" 176) (Term.string "NestedTags" 149)) ∈ fl_1 := List.mem_of_getElem? (i := 129) rfl
theorem fn_8_11 : Cond.not (Cond.eq (Term.string "NestedTags" 176) (Term.string "NestedTags" 164)) ∈ fl_1 := List.mem_of_getElem? (i := 145) rfl
theorem fn_8_12 : Cond.not (Cond.eq (Term.string "NestedTags" 176) (Term.string "NestedTags" 172)) ∈ fl_1 := List.mem_of_getElem? (i := 164) rfl
theorem fn_8_13 : Cond.not (Cond.eq (Term.string "NestedTags" 176) (Term.string "NestedTags" 174)) ∈ fl_1 := List.mem_of_getElem? (i := 182) rfl
theorem fn_8_14 : Cond.not (Cond.eq (Term.string "NestedTags" 176) (Term.string "NestedTags" 178)) ∈ fl_1 := List.mem_of_getElem? (i := 208) rfl
theorem fn_8_15 : Cond.not (Cond.eq (Term.string "NestedTags" 176) (Term.string "NestedTags" 180)) ∈ fl_1 := List.mem_of_getElem? (i := 229) rfl
theorem fn_8_16 : Cond.not (Cond.eq (Term.string "NestedTags" 176) (Term.string "NestedTags" 213)) ∈ fl_1 := List.mem_of_getElem? (i := 250) rfl
theorem fn_8_17 : Cond.not (Cond.eq (Term.string "NestedTags" 176) (Term.string "NestedTags" 228)) ∈ fl_1 := List.mem_of_getElem? (i := 271) rfl
theorem fn_8_18 : Cond.not (Cond.eq (Term.string "NestedTags" 176) (Term.string "NestedTags" 188)) ∈ fl_1 := List.mem_of_getElem? (i := 294) rfl
theorem fn_9_10 : Cond.not (Cond.eq (Term.string "NestedTags" 254) (Term.string "NestedTags" 149)) ∈ fl_1 := List.mem_of_getElem? (i := 130) rfl
theorem fn_9_11 : Cond.not (Cond.eq (Term.string "NestedTags" 254) (Term.string "NestedTags" 164)) ∈ fl_1 := List.mem_of_getElem? (i := 146) rfl
theorem fn_9_12 : Cond.not (Cond.eq (Term.string "NestedTags" 254) (Term.string "NestedTags" 172)) ∈ fl_1 := List.mem_of_getElem? (i := 165) rfl
theorem fn_9_13 : Cond.not (Cond.eq (Term.string "NestedTags" 254) (Term.string "NestedTags" 174)) ∈ fl_1 := List.mem_of_getElem? (i := 183) rfl
theorem fn_9_14 : Cond.not (Cond.eq (Term.string "NestedTags" 254) (Term.string "NestedTags" 178)) ∈ fl_1 := List.mem_of_getElem? (i := 209) rfl
theorem fn_9_15 : Cond.not (Cond.eq (Term.string "NestedTags" 254) (Term.string "NestedTags" 180)) ∈ fl_1 := List.mem_of_getElem? (i := 230) rfl
theorem fn_9_16 : Cond.not (Cond.eq (Term.string "NestedTags" 254) (Term.string "NestedTags" 213)) ∈ fl_1 := List.mem_of_getElem? (i := 251) rfl
theorem fn_9_17 : Cond.not (Cond.eq (Term.string "NestedTags" 254) (Term.string "NestedTags" 228)) ∈ fl_1 := List.mem_of_getElem? (i := 272) rfl
theorem fn_9_18 : Cond.not (Cond.eq (Term.string "NestedTags" 254) (Term.string "NestedTags" 188)) ∈ fl_1 := List.mem_of_getElem? (i := 295) rfl
theorem fn_10_11 : Cond.not (Cond.eq (Term.string "NestedTags" 149) (Term.string "NestedTags" 164)) ∈ fl_1 := List.mem_of_getElem? (i := 147) rfl
theorem fn_10_12 : Cond.not (Cond.eq (Term.string "NestedTags" 149) (Term.string "NestedTags" 172)) ∈ fl_1 := List.mem_of_getElem? (i := 166) rfl
theorem fn_10_13 : Cond.not (Cond.eq (Term.string "NestedTags" 149) (Term.string "NestedTags" 174)) ∈ fl_1 := List.mem_of_getElem? (i := 184) rfl
theorem fn_10_14 : Cond.not (Cond.eq (Term.string "NestedTags" 149) (Term.string "NestedTags" 178)) ∈ fl_1 := List.mem_of_getElem? (i := 210) rfl
theorem fn_10_15 : Cond.not (Cond.eq (Term.string "NestedTags" 149) (Term.string "NestedTags" 180)) ∈ fl_1 := List.mem_of_getElem? (i := 231) rfl
theorem fn_10_16 : Cond.not (Cond.eq (Term.string "NestedTags" 149) (Term.string "NestedTags" 213)) ∈ fl_1 := List.mem_of_getElem? (i := 252) rfl
theorem fn_10_17 : Cond.not (Cond.eq (Term.string "NestedTags" 149) (Term.string "NestedTags" 228)) ∈ fl_1 := List.mem_of_getElem? (i := 273) rfl
theorem fn_10_18 : Cond.not (Cond.eq (Term.string "NestedTags" 149) (Term.string "NestedTags" 188)) ∈ fl_1 := List.mem_of_getElem? (i := 296) rfl
theorem fn_11_12 : Cond.not (Cond.eq (Term.string "NestedTags" 164) (Term.string "NestedTags" 172)) ∈ fl_1 := List.mem_of_getElem? (i := 167) rfl
theorem fn_11_13 : Cond.not (Cond.eq (Term.string "NestedTags" 164) (Term.string "NestedTags" 174)) ∈ fl_1 := List.mem_of_getElem? (i := 185) rfl
theorem fn_11_14 : Cond.not (Cond.eq (Term.string "NestedTags" 164) (Term.string "NestedTags" 178)) ∈ fl_1 := List.mem_of_getElem? (i := 211) rfl
theorem fn_11_15 : Cond.not (Cond.eq (Term.string "NestedTags" 164) (Term.string "NestedTags" 180)) ∈ fl_1 := List.mem_of_getElem? (i := 232) rfl
theorem fn_11_16 : Cond.not (Cond.eq (Term.string "NestedTags" 164) (Term.string "NestedTags" 213)) ∈ fl_1 := List.mem_of_getElem? (i := 253) rfl
theorem fn_11_17 : Cond.not (Cond.eq (Term.string "NestedTags" 164) (Term.string "NestedTags" 228)) ∈ fl_1 := List.mem_of_getElem? (i := 274) rfl
theorem fn_11_18 : Cond.not (Cond.eq (Term.string "NestedTags" 164) (Term.string "NestedTags" 188)) ∈ fl_1 := List.mem_of_getElem? (i := 297) rfl
theorem fn_12_13 : Cond.not (Cond.eq (Term.string "NestedTags" 172) (Term.string "NestedTags" 174)) ∈ fl_1 := List.mem_of_getElem? (i := 186) rfl
theorem fn_12_14 : Cond.not (Cond.eq (Term.string "NestedTags" 172) (Term.string "NestedTags" 178)) ∈ fl_1 := List.mem_of_getElem? (i := 212) rfl
theorem fn_12_15 : Cond.not (Cond.eq (Term.string "NestedTags" 172) (Term.string "NestedTags" 180)) ∈ fl_1 := List.mem_of_getElem? (i := 233) rfl
theorem fn_12_16 : Cond.not (Cond.eq (Term.string "NestedTags" 172) (Term.string "NestedTags" 213)) ∈ fl_1 := List.mem_of_getElem? (i := 254) rfl
theorem fn_12_17 : Cond.not (Cond.eq (Term.string "NestedTags" 172) (Term.string "NestedTags" 228)) ∈ fl_1 := List.mem_of_getElem? (i := 275) rfl
theorem fn_12_18 : Cond.not (Cond.eq (Term.string "NestedTags" 172) (Term.string "NestedTags" 188)) ∈ fl_1 := List.mem_of_getElem? (i := 298) rfl
theorem fn_13_14 : Cond.not (Cond.eq (Term.string "NestedTags" 174) (Term.string "NestedTags" 178)) ∈ fl_1 := List.mem_of_getElem? (i := 213) rfl
theorem fn_13_15 : Cond.not (Cond.eq (Term.string "NestedTags" 174) (Term.string "NestedTags" 180)) ∈ fl_1 := List.mem_of_getElem? (i := 234) rfl
theorem fn_13_16 : Cond.not (Cond.eq (Term.string "NestedTags" 174) (Term.string "NestedTags" 213)) ∈ fl_1 := List.mem_of_getElem? (i := 255) rfl
theorem fn_13_17 : Cond.not (Cond.eq (Term.string "NestedTags" 174) (Term.string "NestedTags" 228)) ∈ fl_1 := List.mem_of_getElem? (i := 276) rfl
theorem fn_13_18 : Cond.not (Cond.eq (Term.string "NestedTags" 174) (Term.string "NestedTags" 188)) ∈ fl_1 := List.mem_of_getElem? (i := 299) rfl
theorem fn_14_15 : Cond.not (Cond.eq (Term.string "NestedTags" 178) (Term.string "NestedTags" 180)) ∈ fl_1 := List.mem_of_getElem? (i := 235) rfl
theorem fn_14_16 : Cond.not (Cond.eq (Term.string "NestedTags" 178) (Term.string "NestedTags" 213)) ∈ fl_1 := List.mem_of_getElem? (i := 256) rfl
theorem fn_14_17 : Cond.not (Cond.eq (Term.string "NestedTags" 178) (Term.string "NestedTags" 228)) ∈ fl_1 := List.mem_of_getElem? (i := 277) rfl
theorem fn_14_18 : Cond.not (Cond.eq (Term.string "NestedTags" 178) (Term.string "NestedTags" 188)) ∈ fl_1 := List.mem_of_getElem? (i := 300) rfl
theorem fn_15_16 : Cond.not (Cond.eq (Term.string "NestedTags" 180) (Term.string "NestedTags" 213)) ∈ fl_1 := List.mem_of_getElem? (i := 257) rfl
theorem fn_15_17 : Cond.not (Cond.eq (Term.string "NestedTags" 180) (Term.string "NestedTags" 228)) ∈ fl_1 := List.mem_of_getElem? (i := 278) rfl
theorem fn_15_18 : Cond.not (Cond.eq (Term.string "NestedTags" 180) (Term.string "NestedTags" 188)) ∈ fl_1 := List.mem_of_getElem? (i := 301) rfl
theorem fn_16_17 : Cond.not (Cond.eq (Term.string "NestedTags" 213) (Term.string "NestedTags" 228)) ∈ fl_1 := List.mem_of_getElem? (i := 279) rfl
theorem fn_16_18 : Cond.not (Cond.eq (Term.string "NestedTags" 213) (Term.string "NestedTags" 188)) ∈ fl_1 := List.mem_of_getElem? (i := 302) rfl
theorem fn_17_18 : Cond.not (Cond.eq (Term.string "NestedTags" 228) (Term.string "NestedTags" 188)) ∈ fl_1 := List.mem_of_getElem? (i := 303) rfl
theorem f_ne_0 : ∀ j : Nat, j < 19 → 0 ≠ j → (Cond.not (Cond.eq (tS 0) (tS j)) ∈ fl_1 ∨ Cond.not (Cond.eq (tS j) (tS 0)) ∈ fl_1) := fun j hj hn => match j, hj, hn with
  | 0, _, h => absurd rfl h
  | 1, _, _ => Or.inl fn_0_1
  | 2, _, _ => Or.inl fn_0_2
  | 3, _, _ => Or.inl fn_0_3
  | 4, _, _ => Or.inl fn_0_4
  | 5, _, _ => Or.inl fn_0_5
  | 6, _, _ => Or.inl fn_0_6
  | 7, _, _ => Or.inl fn_0_7
  | 8, _, _ => Or.inl fn_0_8
  | 9, _, _ => Or.inl fn_0_9
  | 10, _, _ => Or.inl fn_0_10
  | 11, _, _ => Or.inl fn_0_11
  | 12, _, _ => Or.inl fn_0_12
  | 13, _, _ => Or.inl fn_0_13
  | 14, _, _ => Or.inl fn_0_14
  | 15, _, _ => Or.inl fn_0_15
  | 16, _, _ => Or.inl fn_0_16
  | 17, _, _ => Or.inl fn_0_17
  | 18, _, _ => Or.inl fn_0_18
  | k + 19, h, _ => absurd h (by omega)
theorem f_ne_1 : ∀ j : Nat, j < 19 → 1 ≠ j → (Cond.not (Cond.eq (tS 1) (tS j)) ∈ fl_1 ∨ Cond.not (Cond.eq (tS j) (tS 1)) ∈ fl_1) := fun j hj hn => match j, hj, hn with
  | 0, _, _ => Or.inr fn_0_1
  | 1, _, h => absurd rfl h
  | 2, _, _ => Or.inl fn_1_2
  | 3, _, _ => Or.inl fn_1_3
  | 4, _, _ => Or.inl fn_1_4
  | 5, _, _ => Or.inl fn_1_5
  | 6, _, _ => Or.inl fn_1_6
  | 7, _, _ => Or.inl fn_1_7
  | 8, _, _ => Or.inl fn_1_8
  | 9, _, _ => Or.inl fn_1_9
  | 10, _, _ => Or.inl fn_1_10
  | 11, _, _ => Or.inl fn_1_11
  | 12, _, _ => Or.inl fn_1_12
  | 13, _, _ => Or.inl fn_1_13
  | 14, _, _ => Or.inl fn_1_14
  | 15, _, _ => Or.inl fn_1_15
  | 16, _, _ => Or.inl fn_1_16
  | 17, _, _ => Or.inl fn_1_17
  | 18, _, _ => Or.inl fn_1_18
  | k + 19, h, _ => absurd h (by omega)
theorem f_ne_2 : ∀ j : Nat, j < 19 → 2 ≠ j → (Cond.not (Cond.eq (tS 2) (tS j)) ∈ fl_1 ∨ Cond.not (Cond.eq (tS j) (tS 2)) ∈ fl_1) := fun j hj hn => match j, hj, hn with
  | 0, _, _ => Or.inr fn_0_2
  | 1, _, _ => Or.inr fn_1_2
  | 2, _, h => absurd rfl h
  | 3, _, _ => Or.inl fn_2_3
  | 4, _, _ => Or.inl fn_2_4
  | 5, _, _ => Or.inl fn_2_5
  | 6, _, _ => Or.inl fn_2_6
  | 7, _, _ => Or.inl fn_2_7
  | 8, _, _ => Or.inl fn_2_8
  | 9, _, _ => Or.inl fn_2_9
  | 10, _, _ => Or.inl fn_2_10
  | 11, _, _ => Or.inl fn_2_11
  | 12, _, _ => Or.inl fn_2_12
  | 13, _, _ => Or.inl fn_2_13
  | 14, _, _ => Or.inl fn_2_14
  | 15, _, _ => Or.inl fn_2_15
  | 16, _, _ => Or.inl fn_2_16
  | 17, _, _ => Or.inl fn_2_17
  | 18, _, _ => Or.inl fn_2_18
  | k + 19, h, _ => absurd h (by omega)
theorem f_ne_3 : ∀ j : Nat, j < 19 → 3 ≠ j → (Cond.not (Cond.eq (tS 3) (tS j)) ∈ fl_1 ∨ Cond.not (Cond.eq (tS j) (tS 3)) ∈ fl_1) := fun j hj hn => match j, hj, hn with
  | 0, _, _ => Or.inr fn_0_3
  | 1, _, _ => Or.inr fn_1_3
  | 2, _, _ => Or.inr fn_2_3
  | 3, _, h => absurd rfl h
  | 4, _, _ => Or.inl fn_3_4
  | 5, _, _ => Or.inl fn_3_5
  | 6, _, _ => Or.inl fn_3_6
  | 7, _, _ => Or.inl fn_3_7
  | 8, _, _ => Or.inl fn_3_8
  | 9, _, _ => Or.inl fn_3_9
  | 10, _, _ => Or.inl fn_3_10
  | 11, _, _ => Or.inl fn_3_11
  | 12, _, _ => Or.inl fn_3_12
  | 13, _, _ => Or.inl fn_3_13
  | 14, _, _ => Or.inl fn_3_14
  | 15, _, _ => Or.inl fn_3_15
  | 16, _, _ => Or.inl fn_3_16
  | 17, _, _ => Or.inl fn_3_17
  | 18, _, _ => Or.inl fn_3_18
  | k + 19, h, _ => absurd h (by omega)
theorem f_ne_4 : ∀ j : Nat, j < 19 → 4 ≠ j → (Cond.not (Cond.eq (tS 4) (tS j)) ∈ fl_1 ∨ Cond.not (Cond.eq (tS j) (tS 4)) ∈ fl_1) := fun j hj hn => match j, hj, hn with
  | 0, _, _ => Or.inr fn_0_4
  | 1, _, _ => Or.inr fn_1_4
  | 2, _, _ => Or.inr fn_2_4
  | 3, _, _ => Or.inr fn_3_4
  | 4, _, h => absurd rfl h
  | 5, _, _ => Or.inl fn_4_5
  | 6, _, _ => Or.inl fn_4_6
  | 7, _, _ => Or.inl fn_4_7
  | 8, _, _ => Or.inl fn_4_8
  | 9, _, _ => Or.inl fn_4_9
  | 10, _, _ => Or.inl fn_4_10
  | 11, _, _ => Or.inl fn_4_11
  | 12, _, _ => Or.inl fn_4_12
  | 13, _, _ => Or.inl fn_4_13
  | 14, _, _ => Or.inl fn_4_14
  | 15, _, _ => Or.inl fn_4_15
  | 16, _, _ => Or.inl fn_4_16
  | 17, _, _ => Or.inl fn_4_17
  | 18, _, _ => Or.inl fn_4_18
  | k + 19, h, _ => absurd h (by omega)
theorem f_ne_5 : ∀ j : Nat, j < 19 → 5 ≠ j → (Cond.not (Cond.eq (tS 5) (tS j)) ∈ fl_1 ∨ Cond.not (Cond.eq (tS j) (tS 5)) ∈ fl_1) := fun j hj hn => match j, hj, hn with
  | 0, _, _ => Or.inr fn_0_5
  | 1, _, _ => Or.inr fn_1_5
  | 2, _, _ => Or.inr fn_2_5
  | 3, _, _ => Or.inr fn_3_5
  | 4, _, _ => Or.inr fn_4_5
  | 5, _, h => absurd rfl h
  | 6, _, _ => Or.inl fn_5_6
  | 7, _, _ => Or.inl fn_5_7
  | 8, _, _ => Or.inl fn_5_8
  | 9, _, _ => Or.inl fn_5_9
  | 10, _, _ => Or.inl fn_5_10
  | 11, _, _ => Or.inl fn_5_11
  | 12, _, _ => Or.inl fn_5_12
  | 13, _, _ => Or.inl fn_5_13
  | 14, _, _ => Or.inl fn_5_14
  | 15, _, _ => Or.inl fn_5_15
  | 16, _, _ => Or.inl fn_5_16
  | 17, _, _ => Or.inl fn_5_17
  | 18, _, _ => Or.inl fn_5_18
  | k + 19, h, _ => absurd h (by omega)
theorem f_ne_6 : ∀ j : Nat, j < 19 → 6 ≠ j → (Cond.not (Cond.eq (tS 6) (tS j)) ∈ fl_1 ∨ Cond.not (Cond.eq (tS j) (tS 6)) ∈ fl_1) := fun j hj hn => match j, hj, hn with
  | 0, _, _ => Or.inr fn_0_6
  | 1, _, _ => Or.inr fn_1_6
  | 2, _, _ => Or.inr fn_2_6
  | 3, _, _ => Or.inr fn_3_6
  | 4, _, _ => Or.inr fn_4_6
  | 5, _, _ => Or.inr fn_5_6
  | 6, _, h => absurd rfl h
  | 7, _, _ => Or.inl fn_6_7
  | 8, _, _ => Or.inl fn_6_8
  | 9, _, _ => Or.inl fn_6_9
  | 10, _, _ => Or.inl fn_6_10
  | 11, _, _ => Or.inl fn_6_11
  | 12, _, _ => Or.inl fn_6_12
  | 13, _, _ => Or.inl fn_6_13
  | 14, _, _ => Or.inl fn_6_14
  | 15, _, _ => Or.inl fn_6_15
  | 16, _, _ => Or.inl fn_6_16
  | 17, _, _ => Or.inl fn_6_17
  | 18, _, _ => Or.inl fn_6_18
  | k + 19, h, _ => absurd h (by omega)
theorem f_ne_7 : ∀ j : Nat, j < 19 → 7 ≠ j → (Cond.not (Cond.eq (tS 7) (tS j)) ∈ fl_1 ∨ Cond.not (Cond.eq (tS j) (tS 7)) ∈ fl_1) := fun j hj hn => match j, hj, hn with
  | 0, _, _ => Or.inr fn_0_7
  | 1, _, _ => Or.inr fn_1_7
  | 2, _, _ => Or.inr fn_2_7
  | 3, _, _ => Or.inr fn_3_7
  | 4, _, _ => Or.inr fn_4_7
  | 5, _, _ => Or.inr fn_5_7
  | 6, _, _ => Or.inr fn_6_7
  | 7, _, h => absurd rfl h
  | 8, _, _ => Or.inl fn_7_8
  | 9, _, _ => Or.inl fn_7_9
  | 10, _, _ => Or.inl fn_7_10
  | 11, _, _ => Or.inl fn_7_11
  | 12, _, _ => Or.inl fn_7_12
  | 13, _, _ => Or.inl fn_7_13
  | 14, _, _ => Or.inl fn_7_14
  | 15, _, _ => Or.inl fn_7_15
  | 16, _, _ => Or.inl fn_7_16
  | 17, _, _ => Or.inl fn_7_17
  | 18, _, _ => Or.inl fn_7_18
  | k + 19, h, _ => absurd h (by omega)
theorem f_ne_8 : ∀ j : Nat, j < 19 → 8 ≠ j → (Cond.not (Cond.eq (tS 8) (tS j)) ∈ fl_1 ∨ Cond.not (Cond.eq (tS j) (tS 8)) ∈ fl_1) := fun j hj hn => match j, hj, hn with
  | 0, _, _ => Or.inr fn_0_8
  | 1, _, _ => Or.inr fn_1_8
  | 2, _, _ => Or.inr fn_2_8
  | 3, _, _ => Or.inr fn_3_8
  | 4, _, _ => Or.inr fn_4_8
  | 5, _, _ => Or.inr fn_5_8
  | 6, _, _ => Or.inr fn_6_8
  | 7, _, _ => Or.inr fn_7_8
  | 8, _, h => absurd rfl h
  | 9, _, _ => Or.inl fn_8_9
  | 10, _, _ => Or.inl fn_8_10
  | 11, _, _ => Or.inl fn_8_11
  | 12, _, _ => Or.inl fn_8_12
  | 13, _, _ => Or.inl fn_8_13
  | 14, _, _ => Or.inl fn_8_14
  | 15, _, _ => Or.inl fn_8_15
  | 16, _, _ => Or.inl fn_8_16
  | 17, _, _ => Or.inl fn_8_17
  | 18, _, _ => Or.inl fn_8_18
  | k + 19, h, _ => absurd h (by omega)
theorem f_ne_9 : ∀ j : Nat, j < 19 → 9 ≠ j → (Cond.not (Cond.eq (tS 9) (tS j)) ∈ fl_1 ∨ Cond.not (Cond.eq (tS j) (tS 9)) ∈ fl_1) := fun j hj hn => match j, hj, hn with
  | 0, _, _ => Or.inr fn_0_9
  | 1, _, _ => Or.inr fn_1_9
  | 2, _, _ => Or.inr fn_2_9
  | 3, _, _ => Or.inr fn_3_9
  | 4, _, _ => Or.inr fn_4_9
  | 5, _, _ => Or.inr fn_5_9
  | 6, _, _ => Or.inr fn_6_9
  | 7, _, _ => Or.inr fn_7_9
  | 8, _, _ => Or.inr fn_8_9
  | 9, _, h => absurd rfl h
  | 10, _, _ => Or.inl fn_9_10
  | 11, _, _ => Or.inl fn_9_11
  | 12, _, _ => Or.inl fn_9_12
  | 13, _, _ => Or.inl fn_9_13
  | 14, _, _ => Or.inl fn_9_14
  | 15, _, _ => Or.inl fn_9_15
  | 16, _, _ => Or.inl fn_9_16
  | 17, _, _ => Or.inl fn_9_17
  | 18, _, _ => Or.inl fn_9_18
  | k + 19, h, _ => absurd h (by omega)
theorem f_ne_10 : ∀ j : Nat, j < 19 → 10 ≠ j → (Cond.not (Cond.eq (tS 10) (tS j)) ∈ fl_1 ∨ Cond.not (Cond.eq (tS j) (tS 10)) ∈ fl_1) := fun j hj hn => match j, hj, hn with
  | 0, _, _ => Or.inr fn_0_10
  | 1, _, _ => Or.inr fn_1_10
  | 2, _, _ => Or.inr fn_2_10
  | 3, _, _ => Or.inr fn_3_10
  | 4, _, _ => Or.inr fn_4_10
  | 5, _, _ => Or.inr fn_5_10
  | 6, _, _ => Or.inr fn_6_10
  | 7, _, _ => Or.inr fn_7_10
  | 8, _, _ => Or.inr fn_8_10
  | 9, _, _ => Or.inr fn_9_10
  | 10, _, h => absurd rfl h
  | 11, _, _ => Or.inl fn_10_11
  | 12, _, _ => Or.inl fn_10_12
  | 13, _, _ => Or.inl fn_10_13
  | 14, _, _ => Or.inl fn_10_14
  | 15, _, _ => Or.inl fn_10_15
  | 16, _, _ => Or.inl fn_10_16
  | 17, _, _ => Or.inl fn_10_17
  | 18, _, _ => Or.inl fn_10_18
  | k + 19, h, _ => absurd h (by omega)
theorem f_ne_11 : ∀ j : Nat, j < 19 → 11 ≠ j → (Cond.not (Cond.eq (tS 11) (tS j)) ∈ fl_1 ∨ Cond.not (Cond.eq (tS j) (tS 11)) ∈ fl_1) := fun j hj hn => match j, hj, hn with
  | 0, _, _ => Or.inr fn_0_11
  | 1, _, _ => Or.inr fn_1_11
  | 2, _, _ => Or.inr fn_2_11
  | 3, _, _ => Or.inr fn_3_11
  | 4, _, _ => Or.inr fn_4_11
  | 5, _, _ => Or.inr fn_5_11
  | 6, _, _ => Or.inr fn_6_11
  | 7, _, _ => Or.inr fn_7_11
  | 8, _, _ => Or.inr fn_8_11
  | 9, _, _ => Or.inr fn_9_11
  | 10, _, _ => Or.inr fn_10_11
  | 11, _, h => absurd rfl h
  | 12, _, _ => Or.inl fn_11_12
  | 13, _, _ => Or.inl fn_11_13
  | 14, _, _ => Or.inl fn_11_14
  | 15, _, _ => Or.inl fn_11_15
  | 16, _, _ => Or.inl fn_11_16
  | 17, _, _ => Or.inl fn_11_17
  | 18, _, _ => Or.inl fn_11_18
  | k + 19, h, _ => absurd h (by omega)
theorem f_ne_12 : ∀ j : Nat, j < 19 → 12 ≠ j → (Cond.not (Cond.eq (tS 12) (tS j)) ∈ fl_1 ∨ Cond.not (Cond.eq (tS j) (tS 12)) ∈ fl_1) := fun j hj hn => match j, hj, hn with
  | 0, _, _ => Or.inr fn_0_12
  | 1, _, _ => Or.inr fn_1_12
  | 2, _, _ => Or.inr fn_2_12
  | 3, _, _ => Or.inr fn_3_12
  | 4, _, _ => Or.inr fn_4_12
  | 5, _, _ => Or.inr fn_5_12
  | 6, _, _ => Or.inr fn_6_12
  | 7, _, _ => Or.inr fn_7_12
  | 8, _, _ => Or.inr fn_8_12
  | 9, _, _ => Or.inr fn_9_12
  | 10, _, _ => Or.inr fn_10_12
  | 11, _, _ => Or.inr fn_11_12
  | 12, _, h => absurd rfl h
  | 13, _, _ => Or.inl fn_12_13
  | 14, _, _ => Or.inl fn_12_14
  | 15, _, _ => Or.inl fn_12_15
  | 16, _, _ => Or.inl fn_12_16
  | 17, _, _ => Or.inl fn_12_17
  | 18, _, _ => Or.inl fn_12_18
  | k + 19, h, _ => absurd h (by omega)
theorem f_ne_13 : ∀ j : Nat, j < 19 → 13 ≠ j → (Cond.not (Cond.eq (tS 13) (tS j)) ∈ fl_1 ∨ Cond.not (Cond.eq (tS j) (tS 13)) ∈ fl_1) := fun j hj hn => match j, hj, hn with
  | 0, _, _ => Or.inr fn_0_13
  | 1, _, _ => Or.inr fn_1_13
  | 2, _, _ => Or.inr fn_2_13
  | 3, _, _ => Or.inr fn_3_13
  | 4, _, _ => Or.inr fn_4_13
  | 5, _, _ => Or.inr fn_5_13
  | 6, _, _ => Or.inr fn_6_13
  | 7, _, _ => Or.inr fn_7_13
  | 8, _, _ => Or.inr fn_8_13
  | 9, _, _ => Or.inr fn_9_13
  | 10, _, _ => Or.inr fn_10_13
  | 11, _, _ => Or.inr fn_11_13
  | 12, _, _ => Or.inr fn_12_13
  | 13, _, h => absurd rfl h
  | 14, _, _ => Or.inl fn_13_14
  | 15, _, _ => Or.inl fn_13_15
  | 16, _, _ => Or.inl fn_13_16
  | 17, _, _ => Or.inl fn_13_17
  | 18, _, _ => Or.inl fn_13_18
  | k + 19, h, _ => absurd h (by omega)
theorem f_ne_14 : ∀ j : Nat, j < 19 → 14 ≠ j → (Cond.not (Cond.eq (tS 14) (tS j)) ∈ fl_1 ∨ Cond.not (Cond.eq (tS j) (tS 14)) ∈ fl_1) := fun j hj hn => match j, hj, hn with
  | 0, _, _ => Or.inr fn_0_14
  | 1, _, _ => Or.inr fn_1_14
  | 2, _, _ => Or.inr fn_2_14
  | 3, _, _ => Or.inr fn_3_14
  | 4, _, _ => Or.inr fn_4_14
  | 5, _, _ => Or.inr fn_5_14
  | 6, _, _ => Or.inr fn_6_14
  | 7, _, _ => Or.inr fn_7_14
  | 8, _, _ => Or.inr fn_8_14
  | 9, _, _ => Or.inr fn_9_14
  | 10, _, _ => Or.inr fn_10_14
  | 11, _, _ => Or.inr fn_11_14
  | 12, _, _ => Or.inr fn_12_14
  | 13, _, _ => Or.inr fn_13_14
  | 14, _, h => absurd rfl h
  | 15, _, _ => Or.inl fn_14_15
  | 16, _, _ => Or.inl fn_14_16
  | 17, _, _ => Or.inl fn_14_17
  | 18, _, _ => Or.inl fn_14_18
  | k + 19, h, _ => absurd h (by omega)
theorem f_ne_15 : ∀ j : Nat, j < 19 → 15 ≠ j → (Cond.not (Cond.eq (tS 15) (tS j)) ∈ fl_1 ∨ Cond.not (Cond.eq (tS j) (tS 15)) ∈ fl_1) := fun j hj hn => match j, hj, hn with
  | 0, _, _ => Or.inr fn_0_15
  | 1, _, _ => Or.inr fn_1_15
  | 2, _, _ => Or.inr fn_2_15
  | 3, _, _ => Or.inr fn_3_15
  | 4, _, _ => Or.inr fn_4_15
  | 5, _, _ => Or.inr fn_5_15
  | 6, _, _ => Or.inr fn_6_15
  | 7, _, _ => Or.inr fn_7_15
  | 8, _, _ => Or.inr fn_8_15
  | 9, _, _ => Or.inr fn_9_15
  | 10, _, _ => Or.inr fn_10_15
  | 11, _, _ => Or.inr fn_11_15
  | 12, _, _ => Or.inr fn_12_15
  | 13, _, _ => Or.inr fn_13_15
  | 14, _, _ => Or.inr fn_14_15
  | 15, _, h => absurd rfl h
  | 16, _, _ => Or.inl fn_15_16
  | 17, _, _ => Or.inl fn_15_17
  | 18, _, _ => Or.inl fn_15_18
  | k + 19, h, _ => absurd h (by omega)
theorem f_ne_16 : ∀ j : Nat, j < 19 → 16 ≠ j → (Cond.not (Cond.eq (tS 16) (tS j)) ∈ fl_1 ∨ Cond.not (Cond.eq (tS j) (tS 16)) ∈ fl_1) := fun j hj hn => match j, hj, hn with
  | 0, _, _ => Or.inr fn_0_16
  | 1, _, _ => Or.inr fn_1_16
  | 2, _, _ => Or.inr fn_2_16
  | 3, _, _ => Or.inr fn_3_16
  | 4, _, _ => Or.inr fn_4_16
  | 5, _, _ => Or.inr fn_5_16
  | 6, _, _ => Or.inr fn_6_16
  | 7, _, _ => Or.inr fn_7_16
  | 8, _, _ => Or.inr fn_8_16
  | 9, _, _ => Or.inr fn_9_16
  | 10, _, _ => Or.inr fn_10_16
  | 11, _, _ => Or.inr fn_11_16
  | 12, _, _ => Or.inr fn_12_16
  | 13, _, _ => Or.inr fn_13_16
  | 14, _, _ => Or.inr fn_14_16
  | 15, _, _ => Or.inr fn_15_16
  | 16, _, h => absurd rfl h
  | 17, _, _ => Or.inl fn_16_17
  | 18, _, _ => Or.inl fn_16_18
  | k + 19, h, _ => absurd h (by omega)
theorem f_ne_17 : ∀ j : Nat, j < 19 → 17 ≠ j → (Cond.not (Cond.eq (tS 17) (tS j)) ∈ fl_1 ∨ Cond.not (Cond.eq (tS j) (tS 17)) ∈ fl_1) := fun j hj hn => match j, hj, hn with
  | 0, _, _ => Or.inr fn_0_17
  | 1, _, _ => Or.inr fn_1_17
  | 2, _, _ => Or.inr fn_2_17
  | 3, _, _ => Or.inr fn_3_17
  | 4, _, _ => Or.inr fn_4_17
  | 5, _, _ => Or.inr fn_5_17
  | 6, _, _ => Or.inr fn_6_17
  | 7, _, _ => Or.inr fn_7_17
  | 8, _, _ => Or.inr fn_8_17
  | 9, _, _ => Or.inr fn_9_17
  | 10, _, _ => Or.inr fn_10_17
  | 11, _, _ => Or.inr fn_11_17
  | 12, _, _ => Or.inr fn_12_17
  | 13, _, _ => Or.inr fn_13_17
  | 14, _, _ => Or.inr fn_14_17
  | 15, _, _ => Or.inr fn_15_17
  | 16, _, _ => Or.inr fn_16_17
  | 17, _, h => absurd rfl h
  | 18, _, _ => Or.inl fn_17_18
  | k + 19, h, _ => absurd h (by omega)
theorem f_ne_18 : ∀ j : Nat, j < 19 → 18 ≠ j → (Cond.not (Cond.eq (tS 18) (tS j)) ∈ fl_1 ∨ Cond.not (Cond.eq (tS j) (tS 18)) ∈ fl_1) := fun j hj hn => match j, hj, hn with
  | 0, _, _ => Or.inr fn_0_18
  | 1, _, _ => Or.inr fn_1_18
  | 2, _, _ => Or.inr fn_2_18
  | 3, _, _ => Or.inr fn_3_18
  | 4, _, _ => Or.inr fn_4_18
  | 5, _, _ => Or.inr fn_5_18
  | 6, _, _ => Or.inr fn_6_18
  | 7, _, _ => Or.inr fn_7_18
  | 8, _, _ => Or.inr fn_8_18
  | 9, _, _ => Or.inr fn_9_18
  | 10, _, _ => Or.inr fn_10_18
  | 11, _, _ => Or.inr fn_11_18
  | 12, _, _ => Or.inr fn_12_18
  | 13, _, _ => Or.inr fn_13_18
  | 14, _, _ => Or.inr fn_14_18
  | 15, _, _ => Or.inr fn_15_18
  | 16, _, _ => Or.inr fn_16_18
  | 17, _, _ => Or.inr fn_17_18
  | 18, _, h => absurd rfl h
  | k + 19, h, _ => absurd h (by omega)
theorem f_ne : ∀ i : Nat, i < 19 → ∀ j : Nat, j < 19 → i ≠ j → (Cond.not (Cond.eq (tS i) (tS j)) ∈ fl_1 ∨ Cond.not (Cond.eq (tS j) (tS i)) ∈ fl_1) := fun i hi => match i, hi with
  | 0, _ => f_ne_0
  | 1, _ => f_ne_1
  | 2, _ => f_ne_2
  | 3, _ => f_ne_3
  | 4, _ => f_ne_4
  | 5, _ => f_ne_5
  | 6, _ => f_ne_6
  | 7, _ => f_ne_7
  | 8, _ => f_ne_8
  | 9, _ => f_ne_9
  | 10, _ => f_ne_10
  | 11, _ => f_ne_11
  | 12, _ => f_ne_12
  | 13, _ => f_ne_13
  | 14, _ => f_ne_14
  | 15, _ => f_ne_15
  | 16, _ => f_ne_16
  | 17, _ => f_ne_17
  | 18, _ => f_ne_18
  | k + 19, h => absurd h (by omega)

theorem f_cs : Cond.eq (.static "java/lang/String" "COMPACT_STRINGS" "Z") (.int 1) ∈ fl_1 := by decide +kernel
theorem f_sf : Cond.isRef (.static "jdk/internal/util/Preconditions" "SIOOBE_FORMATTER" "Ljava/util/function/BiFunction;") ∈ fl_1 := by decide +kernel
theorem f_sr : ∀ i : Nat, i < 19 → Cond.stringRef "NestedTags" (idxS.getD i 0) (txtS.getD i "") ∈ tables_1 := by decide +kernel
theorem f_l1 : Cond.laysStatic "java/lang/String" "COMPACT_STRINGS" "Z" ∈ tables_1 := by decide +kernel
theorem f_l2 : Cond.laysStatic "jdk/internal/util/Preconditions" "SIOOBE_FORMATTER" "Ljava/util/function/BiFunction;" ∈ tables_1 := by decide +kernel
theorem f_i1 : Cond.initialized "java/lang/String" ∈ tables_1 := by decide +kernel
theorem f_i2 : Cond.initialized "jdk/internal/util/Preconditions" ∈ tables_1 := by decide +kernel
theorem sv_start {args : Array Value} {s : State} (htl : ∀ w ∈ lw_tbl, w.before args s = true) (hgv : (Jvm.Cond.and given_1 narrow_1).before args s = true) {A : Nat → Prop} (hA : ∀ a : Nat, a < s.heap.size → ¬ A a) : ∃ V : (Nat → Nat) × (Nat → Nat), sv V A s s.heap := by
  have hs := flat_of_before _ hgv
  have ht : ∀ w ∈ tables_1, w.before args s = true := fun w h => htl w (List.mem_append_right _ h)
  obtain ⟨adK, adV, h1, h2⟩ := vk_Sof (args := args) (s := s) (N := 19) (tm := tS) (len := lenS) (byt := bytS) (A := A) (by decide +kernel) (fun i hi => hs _ (f_ex i hi)) (fun i hi => hs _ (f_co i hi)) (fun i hi => hs _ (f_ar i hi)) (fun i hi => hs _ (f_le i hi)) (fun i hi j hj => hs _ (f_el i hi j hj)) (fun i j hi hj hij => (f_ne i hi j hj hij).elim (fun z => Or.inl (hs _ z)) (fun z => Or.inr (hs _ z))) hA
  exact ⟨(adK, adV), h1, fun i hi => vk_R.of (ht _ (f_sr i hi)) (h2 i hi), va_Zof (ht _ f_l1) (ht _ f_i1) (va_eqt (hs _ f_cs)) hA, va_Zqof (ht _ f_l2) (ht _ f_i2) (hs _ f_sf) hA⟩
