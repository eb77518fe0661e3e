/-! links, by place -/
theorem fRX5_10 : FLk RX5 10 5 0 := Or.inl (List.mem_filter.mpr ⟨List.mem_of_getElem? (i := 210) (by decide +kernel), by decide +kernel⟩)
theorem fRX5_16 : FLk RX5 16 5 1 := Or.inl (List.mem_filter.mpr ⟨List.mem_of_getElem? (i := 211) (by decide +kernel), by decide +kernel⟩)
theorem fRX5_19 : FLk RX5 19 5 2 := Or.inl (List.mem_filter.mpr ⟨List.mem_of_getElem? (i := 212) (by decide +kernel), by decide +kernel⟩)
theorem fRX5_25 : FLk RX5 25 5 3 := Or.inl (List.mem_filter.mpr ⟨List.mem_of_getElem? (i := 213) (by decide +kernel), by decide +kernel⟩)
theorem fRX5_34 : FLk RX5 34 5 4 := Or.inl (List.mem_filter.mpr ⟨List.mem_of_getElem? (i := 214) (by decide +kernel), by decide +kernel⟩)
theorem fRX5_40 : FLk RX5 40 5 5 := Or.inl (List.mem_filter.mpr ⟨List.mem_of_getElem? (i := 215) (by decide +kernel), by decide +kernel⟩)
theorem fRX5_45 : FLk RX5 45 5 6 := Or.inl (List.mem_filter.mpr ⟨List.mem_of_getElem? (i := 216) (by decide +kernel), by decide +kernel⟩)
theorem fRX5_49 : FLk RX5 49 5 7 := Or.inl (List.mem_filter.mpr ⟨List.mem_of_getElem? (i := 217) (by decide +kernel), by decide +kernel⟩)
theorem fRX5_163 : SLk RX5 163 1 := Or.inl (List.mem_filter.mpr ⟨List.mem_of_getElem? (i := 480) (by decide +kernel), by decide +kernel⟩)
theorem fRX5_166 : SLk RX5 166 0 := Or.inl (List.mem_filter.mpr ⟨List.mem_of_getElem? (i := 481) (by decide +kernel), by decide +kernel⟩)
theorem fRX0_9 : FLk RX0 9 0 0 := Or.inl (List.mem_filter.mpr ⟨List.mem_of_getElem? (i := 92) (by decide +kernel), by decide +kernel⟩)
theorem fRX0_15 : FLk RX0 15 0 2 := Or.inl (List.mem_filter.mpr ⟨List.mem_of_getElem? (i := 95) (by decide +kernel), by decide +kernel⟩)
theorem fRX0_18 : FLk RX0 18 0 5 := Or.inl (List.mem_filter.mpr ⟨List.mem_of_getElem? (i := 102) (by decide +kernel), by decide +kernel⟩)
theorem fRX0_32 : FLk RX0 32 0 1 := Or.inl (List.mem_filter.mpr ⟨List.mem_of_getElem? (i := 93) (by decide +kernel), by decide +kernel⟩)
theorem fRX0_35 : FLk RX0 35 0 3 := Or.inl (List.mem_filter.mpr ⟨List.mem_of_getElem? (i := 97) (by decide +kernel), by decide +kernel⟩)
theorem fRX0_38 : FLk RX0 38 0 4 := Or.inl (List.mem_filter.mpr ⟨List.mem_of_getElem? (i := 100) (by decide +kernel), by decide +kernel⟩)
theorem fRX0_41 : FLk RX0 41 0 6 := Or.inl (List.mem_filter.mpr ⟨List.mem_of_getElem? (i := 103) (by decide +kernel), by decide +kernel⟩)
theorem fRX1_9 : FLk RX1 9 1 0 := Or.inl (List.mem_filter.mpr ⟨List.mem_of_getElem? (i := 120) (by decide +kernel), by decide +kernel⟩)
theorem fRX1_17 : FLk RX1 17 1 1 := Or.inl (List.mem_filter.mpr ⟨List.mem_of_getElem? (i := 123) (by decide +kernel), by decide +kernel⟩)
theorem fRX1_22 : FLk RX1 22 1 2 := Or.inl (List.mem_filter.mpr ⟨List.mem_of_getElem? (i := 126) (by decide +kernel), by decide +kernel⟩)
theorem fRX1_25 : FLk RX1 25 1 5 := Or.inl (List.mem_filter.mpr ⟨List.mem_of_getElem? (i := 132) (by decide +kernel), by decide +kernel⟩)
theorem fRX1_35 : FLk RX1 35 1 3 := Or.inl (List.mem_filter.mpr ⟨List.mem_of_getElem? (i := 128) (by decide +kernel), by decide +kernel⟩)
theorem fRX1_42 : FLk RX1 42 1 4 := Or.inl (List.mem_filter.mpr ⟨List.mem_of_getElem? (i := 130) (by decide +kernel), by decide +kernel⟩)
theorem fRX2_9 : FLk RX2 9 2 0 := Or.inl (List.mem_filter.mpr ⟨List.mem_of_getElem? (i := 197) (by decide +kernel), by decide +kernel⟩)
theorem fRX2_15 : FLk RX2 15 2 1 := Or.inl (List.mem_filter.mpr ⟨List.mem_of_getElem? (i := 199) (by decide +kernel), by decide +kernel⟩)
theorem fRX2_19 : FLk RX2 19 2 2 := Or.inl (List.mem_filter.mpr ⟨List.mem_of_getElem? (i := 201) (by decide +kernel), by decide +kernel⟩)
theorem fRX3_9 : FLk RX3 9 3 0 := Or.inl (List.mem_filter.mpr ⟨List.mem_of_getElem? (i := 153) (by decide +kernel), by decide +kernel⟩)
theorem fRX3_15 : FLk RX3 15 3 1 := Or.inl (List.mem_filter.mpr ⟨List.mem_of_getElem? (i := 154) (by decide +kernel), by decide +kernel⟩)
theorem fRX3_19 : FLk RX3 19 3 2 := Or.inl (List.mem_filter.mpr ⟨List.mem_of_getElem? (i := 156) (by decide +kernel), by decide +kernel⟩)
theorem fRX3_22 : FLk RX3 22 3 3 := Or.inl (List.mem_filter.mpr ⟨List.mem_of_getElem? (i := 158) (by decide +kernel), by decide +kernel⟩)
theorem fRX3_25 : FLk RX3 25 3 4 := Or.inl (List.mem_filter.mpr ⟨List.mem_of_getElem? (i := 159) (by decide +kernel), by decide +kernel⟩)
theorem fRX3_28 : FLk RX3 28 3 5 := Or.inl (List.mem_filter.mpr ⟨List.mem_of_getElem? (i := 161) (by decide +kernel), by decide +kernel⟩)
theorem fRX4_9 : FLk RX4 9 4 0 := Or.inl (List.mem_filter.mpr ⟨List.mem_of_getElem? (i := 183) (by decide +kernel), by decide +kernel⟩)
theorem fRX4_15 : FLk RX4 15 4 1 := Or.inl (List.mem_filter.mpr ⟨List.mem_of_getElem? (i := 184) (by decide +kernel), by decide +kernel⟩)
theorem fRX6_7 : FLk RX6 7 6 0 := Or.inl (List.mem_filter.mpr ⟨List.mem_of_getElem? (i := 799) (by decide +kernel), by decide +kernel⟩)
theorem fRX6_13 : FLk RX6 13 6 1 := Or.inl (List.mem_filter.mpr ⟨List.mem_of_getElem? (i := 800) (by decide +kernel), by decide +kernel⟩)
theorem fRX6_16 : FLk RX6 16 6 2 := Or.inl (List.mem_filter.mpr ⟨List.mem_of_getElem? (i := 801) (by decide +kernel), by decide +kernel⟩)
theorem fRX6_19 : FLk RX6 19 6 3 := Or.inl (List.mem_filter.mpr ⟨List.mem_of_getElem? (i := 802) (by decide +kernel), by decide +kernel⟩)
theorem fRX6_22 : FLk RX6 22 6 5 := Or.inl (List.mem_filter.mpr ⟨List.mem_of_getElem? (i := 804) (by decide +kernel), by decide +kernel⟩)
theorem fRX6_25 : FLk RX6 25 6 6 := Or.inl (List.mem_filter.mpr ⟨List.mem_of_getElem? (i := 805) (by decide +kernel), by decide +kernel⟩)
theorem fRX6_28 : FLk RX6 28 6 8 := Or.inl (List.mem_filter.mpr ⟨List.mem_of_getElem? (i := 807) (by decide +kernel), by decide +kernel⟩)
theorem fRX6_31 : FLk RX6 31 6 9 := Or.inl (List.mem_filter.mpr ⟨List.mem_of_getElem? (i := 808) (by decide +kernel), by decide +kernel⟩)
theorem fRX6_34 : FLk RX6 34 6 10 := Or.inl (List.mem_filter.mpr ⟨List.mem_of_getElem? (i := 809) (by decide +kernel), by decide +kernel⟩)
theorem fRX6_37 : FLk RX6 37 6 11 := Or.inl (List.mem_filter.mpr ⟨List.mem_of_getElem? (i := 810) (by decide +kernel), by decide +kernel⟩)
theorem fRX6_40 : FLk RX6 40 6 12 := Or.inl (List.mem_filter.mpr ⟨List.mem_of_getElem? (i := 811) (by decide +kernel), by decide +kernel⟩)
theorem fRX6_185 : FLk RX6 185 6 13 := Or.inl (List.mem_filter.mpr ⟨List.mem_of_getElem? (i := 812) (by decide +kernel), by decide +kernel⟩)
theorem fRX6_192 : FLk RX6 192 6 14 := Or.inl (List.mem_filter.mpr ⟨List.mem_of_getElem? (i := 813) (by decide +kernel), by decide +kernel⟩)
theorem fRX6_214 : FLk RX6 214 6 7 := Or.inl (List.mem_filter.mpr ⟨List.mem_of_getElem? (i := 806) (by decide +kernel), by decide +kernel⟩)
theorem fRX6_217 : FLk RX6 217 6 17 := Or.inl (List.mem_filter.mpr ⟨List.mem_of_getElem? (i := 816) (by decide +kernel), by decide +kernel⟩)
theorem fRX6_220 : FLk RX6 220 6 16 := Or.inl (List.mem_filter.mpr ⟨List.mem_of_getElem? (i := 815) (by decide +kernel), by decide +kernel⟩)
theorem fRX6_232 : FLk RX6 232 6 15 := Or.inl (List.mem_filter.mpr ⟨List.mem_of_getElem? (i := 814) (by decide +kernel), by decide +kernel⟩)
theorem fRX6_235 : FLk RX6 235 6 18 := Or.inl (List.mem_filter.mpr ⟨List.mem_of_getElem? (i := 817) (by decide +kernel), by decide +kernel⟩)
theorem fRX6_238 : FLk RX6 238 6 19 := Or.inl (List.mem_filter.mpr ⟨List.mem_of_getElem? (i := 818) (by decide +kernel), by decide +kernel⟩)
theorem fRX6_296 : FLk RX6 296 6 4 := Or.inl (List.mem_filter.mpr ⟨List.mem_of_getElem? (i := 803) (by decide +kernel), by decide +kernel⟩)
theorem fRJ0_9 : Cond.fieldLink RJ0 9 "java/lang/String" "value" "[B" ∈ tb := List.mem_filter.mpr ⟨List.mem_of_getElem? (i := 1296) (by decide +kernel), by decide +kernel⟩
theorem fRJ0_15 : Cond.fieldLink RJ0 15 "java/lang/String" "coder" "B" ∈ tb := List.mem_filter.mpr ⟨List.mem_of_getElem? (i := 1297) (by decide +kernel), by decide +kernel⟩
theorem fRJ0_38 : Cond.fieldLink RJ0 38 "java/lang/String" "COMPACT_STRINGS" "Z" ∈ tb := List.mem_filter.mpr ⟨List.mem_of_getElem? (i := 643) (by decide +kernel), by decide +kernel⟩
theorem fRJ0_1053 : Cond.fieldLink RJ0 1053 "jdk/internal/util/Preconditions" "SIOOBE_FORMATTER" "Ljava/util/function/BiFunction;" ∈ tb := List.mem_filter.mpr ⟨List.mem_of_getElem? (i := 659) (by decide +kernel), by decide +kernel⟩
theorem fRJ2_44 : Cond.fieldLink RJ2 44 "java/lang/StringUTF16" "$assertionsDisabled" "Z" ∈ tb := List.mem_filter.mpr ⟨List.mem_of_getElem? (i := 677) (by decide +kernel), by decide +kernel⟩
theorem fRJ2_59 : Cond.fieldLink RJ2 59 "java/lang/StringUTF16" "HI_BYTE_SHIFT" "I" ∈ tb := List.mem_filter.mpr ⟨List.mem_of_getElem? (i := 679) (by decide +kernel), by decide +kernel⟩
theorem fRJ2_63 : Cond.fieldLink RJ2 63 "java/lang/StringUTF16" "LO_BYTE_SHIFT" "I" ∈ tb := List.mem_filter.mpr ⟨List.mem_of_getElem? (i := 681) (by decide +kernel), by decide +kernel⟩
theorem fRX5_61 : FLk RX5 61 1 0 := Or.inr (List.mem_filter.mpr ⟨List.mem_of_getElem? (i := 121) (by decide +kernel), by decide +kernel⟩)
theorem fRX5_82 : FLk RX5 82 1 1 := Or.inr (List.mem_filter.mpr ⟨List.mem_of_getElem? (i := 124) (by decide +kernel), by decide +kernel⟩)
theorem fRX5_86 : FLk RX5 86 0 1 := Or.inr (List.mem_filter.mpr ⟨List.mem_of_getElem? (i := 94) (by decide +kernel), by decide +kernel⟩)
theorem fRX5_131 : FLk RX5 131 1 4 := Or.inr (List.mem_filter.mpr ⟨List.mem_of_getElem? (i := 131) (by decide +kernel), by decide +kernel⟩)
theorem fRX5_172 : FLk RX5 172 1 3 := Or.inr (List.mem_filter.mpr ⟨List.mem_of_getElem? (i := 129) (by decide +kernel), by decide +kernel⟩)
theorem fRX5_178 : FLk RX5 178 0 2 := Or.inr (List.mem_filter.mpr ⟨List.mem_of_getElem? (i := 96) (by decide +kernel), by decide +kernel⟩)
theorem fRX5_187 : FLk RX5 187 0 3 := Or.inr (List.mem_filter.mpr ⟨List.mem_of_getElem? (i := 99) (by decide +kernel), by decide +kernel⟩)
theorem fRX5_214 : FLk RX5 214 2 2 := Or.inr (List.mem_filter.mpr ⟨List.mem_of_getElem? (i := 202) (by decide +kernel), by decide +kernel⟩)
theorem fRX5_217 : FLk RX5 217 2 0 := Or.inr (List.mem_filter.mpr ⟨List.mem_of_getElem? (i := 198) (by decide +kernel), by decide +kernel⟩)
theorem fRX5_227 : FLk RX5 227 1 5 := Or.inr (List.mem_filter.mpr ⟨List.mem_of_getElem? (i := 133) (by decide +kernel), by decide +kernel⟩)
theorem fRX5_230 : FLk RX5 230 3 1 := Or.inr (List.mem_filter.mpr ⟨List.mem_of_getElem? (i := 155) (by decide +kernel), by decide +kernel⟩)
theorem fRX5_240 : FLk RX5 240 1 2 := Or.inr (List.mem_filter.mpr ⟨List.mem_of_getElem? (i := 127) (by decide +kernel), by decide +kernel⟩)
theorem fRX5_258 : FLk RX5 258 2 1 := Or.inr (List.mem_filter.mpr ⟨List.mem_of_getElem? (i := 200) (by decide +kernel), by decide +kernel⟩)
theorem fRX0_25 : SLk RX0 25 0 := Or.inr (List.mem_filter.mpr ⟨List.mem_of_getElem? (i := 255) (by decide +kernel), by decide +kernel⟩)
theorem fRX0_29 : SLk RX0 29 1 := Or.inr (List.mem_filter.mpr ⟨List.mem_of_getElem? (i := 257) (by decide +kernel), by decide +kernel⟩)
theorem fRX0_44 : SLk RX0 44 2 := Or.inr (List.mem_filter.mpr ⟨List.mem_of_getElem? (i := 730) (by decide +kernel), by decide +kernel⟩)
theorem fRX0_53 : SLk RX0 53 3 := Or.inr (List.mem_filter.mpr ⟨List.mem_of_getElem? (i := 291) (by decide +kernel), by decide +kernel⟩)
theorem fRX1_74 : FLk RX1 74 0 3 := Or.inr (List.mem_filter.mpr ⟨List.mem_of_getElem? (i := 98) (by decide +kernel), by decide +kernel⟩)
theorem fRX1_104 : FLk RX1 104 0 4 := Or.inr (List.mem_filter.mpr ⟨List.mem_of_getElem? (i := 101) (by decide +kernel), by decide +kernel⟩)
theorem fRX4_28 : FLk RX4 28 3 4 := Or.inr (List.mem_filter.mpr ⟨List.mem_of_getElem? (i := 160) (by decide +kernel), by decide +kernel⟩)
theorem fRX4_35 : FLk RX4 35 3 2 := Or.inr (List.mem_filter.mpr ⟨List.mem_of_getElem? (i := 157) (by decide +kernel), by decide +kernel⟩)
theorem fRX4_65 : FLk RX4 65 1 0 := Or.inr (List.mem_filter.mpr ⟨List.mem_of_getElem? (i := 122) (by decide +kernel), by decide +kernel⟩)
theorem fRX4_69 : FLk RX4 69 3 5 := Or.inr (List.mem_filter.mpr ⟨List.mem_of_getElem? (i := 162) (by decide +kernel), by decide +kernel⟩)
theorem fRX4_72 : SLk RX4 72 0 := Or.inr (List.mem_filter.mpr ⟨List.mem_of_getElem? (i := 689) (by decide +kernel), by decide +kernel⟩)
theorem fRX4_75 : SLk RX4 75 1 := Or.inr (List.mem_filter.mpr ⟨List.mem_of_getElem? (i := 690) (by decide +kernel), by decide +kernel⟩)
theorem fRX4_78 : FLk RX4 78 1 1 := Or.inr (List.mem_filter.mpr ⟨List.mem_of_getElem? (i := 125) (by decide +kernel), by decide +kernel⟩)
theorem kRX5_134 : Cond.constant RX5 134 (99999) ∈ tb := List.mem_filter.mpr ⟨List.mem_of_getElem? (i := 390) (by decide +kernel), by decide +kernel⟩
theorem kRX5_276 : Cond.constant RX5 276 (-1000001) ∈ tb := List.mem_filter.mpr ⟨List.mem_of_getElem? (i := 246) (by decide +kernel), by decide +kernel⟩
theorem kRX1_63 : Cond.constant RX1 63 (1000000) ∈ tb := List.mem_filter.mpr ⟨List.mem_of_getElem? (i := 332) (by decide +kernel), by decide +kernel⟩
theorem kRX1_97 : Cond.constant RX1 97 (99999) ∈ tb := List.mem_filter.mpr ⟨List.mem_of_getElem? (i := 409) (by decide +kernel), by decide +kernel⟩
theorem kRX1_107 : Cond.constant RX1 107 (1103515245) ∈ tb := List.mem_filter.mpr ⟨List.mem_of_getElem? (i := 568) (by decide +kernel), by decide +kernel⟩
theorem kRX6_43 : Cond.constant RX6 43 (-1000001) ∈ tb := List.mem_filter.mpr ⟨List.mem_of_getElem? (i := 873) (by decide +kernel), by decide +kernel⟩
theorem kRX6_44 : Cond.constant RX6 44 (-1000004) ∈ tb := List.mem_filter.mpr ⟨List.mem_of_getElem? (i := 1048) (by decide +kernel), by decide +kernel⟩
theorem kRX6_65 : Cond.constant RX6 65 (-1000002) ∈ tb := List.mem_filter.mpr ⟨List.mem_of_getElem? (i := 884) (by decide +kernel), by decide +kernel⟩
theorem kRX6_147 : Cond.constant RX6 147 (99999) ∈ tb := List.mem_filter.mpr ⟨List.mem_of_getElem? (i := 1003) (by decide +kernel), by decide +kernel⟩
theorem kRX6_148 : Cond.constant RX6 148 (-1000005) ∈ tb := List.mem_filter.mpr ⟨List.mem_of_getElem? (i := 1004) (by decide +kernel), by decide +kernel⟩
theorem kRX6_204 : Cond.constant RX6 204 (1103515245) ∈ tb := List.mem_filter.mpr ⟨List.mem_of_getElem? (i := 1152) (by decide +kernel), by decide +kernel⟩
theorem kRX6_287 : Cond.constant RX6 287 (-1000006) ∈ tb := List.mem_filter.mpr ⟨List.mem_of_getElem? (i := 1131) (by decide +kernel), by decide +kernel⟩
theorem kRX6_291 : Cond.constant RX6 291 (-1000003) ∈ tb := List.mem_filter.mpr ⟨List.mem_of_getElem? (i := 1253) (by decide +kernel), by decide +kernel⟩
theorem kRX6_295 : Cond.constant RX6 295 (-1000007) ∈ tb := List.mem_filter.mpr ⟨List.mem_of_getElem? (i := 1258) (by decide +kernel), by decide +kernel⟩
theorem kRJ6_265 : Cond.constant RJ6 265 (1431655765) ∈ tb := List.mem_filter.mpr ⟨List.mem_of_getElem? (i := 469) (by decide +kernel), by decide +kernel⟩
theorem kRJ6_266 : Cond.constant RJ6 266 (858993459) ∈ tb := List.mem_filter.mpr ⟨List.mem_of_getElem? (i := 470) (by decide +kernel), by decide +kernel⟩
theorem kRJ6_267 : Cond.constant RJ6 267 (252645135) ∈ tb := List.mem_filter.mpr ⟨List.mem_of_getElem? (i := 471) (by decide +kernel), by decide +kernel⟩
theorem kRX5_223 : Cond.constantLong RX5 223 (3) ∈ tb := List.mem_filter.mpr ⟨List.mem_of_getElem? (i := 573) (by decide +kernel), by decide +kernel⟩
theorem kRX5_225 : Cond.constantLong RX5 225 (5) ∈ tb := List.mem_filter.mpr ⟨List.mem_of_getElem? (i := 574) (by decide +kernel), by decide +kernel⟩
theorem kRX6_49 : Cond.constantLong RX6 49 (2) ∈ tb := List.mem_filter.mpr ⟨List.mem_of_getElem? (i := 864) (by decide +kernel), by decide +kernel⟩
theorem kRX6_55 : Cond.constantLong RX6 55 (99) ∈ tb := List.mem_filter.mpr ⟨List.mem_of_getElem? (i := 868) (by decide +kernel), by decide +kernel⟩
theorem kRX6_61 : Cond.constantLong RX6 61 (6) ∈ tb := List.mem_filter.mpr ⟨List.mem_of_getElem? (i := 882) (by decide +kernel), by decide +kernel⟩
theorem kRX6_63 : Cond.constantLong RX6 63 (999) ∈ tb := List.mem_filter.mpr ⟨List.mem_of_getElem? (i := 883) (by decide +kernel), by decide +kernel⟩
theorem kRX6_86 : Cond.constantLong RX6 86 (7) ∈ tb := List.mem_filter.mpr ⟨List.mem_of_getElem? (i := 897) (by decide +kernel), by decide +kernel⟩
theorem kRX6_94 : Cond.constantLong RX6 94 (20) ∈ tb := List.mem_filter.mpr ⟨List.mem_of_getElem? (i := 927) (by decide +kernel), by decide +kernel⟩
theorem kRX6_96 : Cond.constantLong RX6 96 (-9) ∈ tb := List.mem_filter.mpr ⟨List.mem_of_getElem? (i := 928) (by decide +kernel), by decide +kernel⟩
theorem kRX6_98 : Cond.constantLong RX6 98 (9) ∈ tb := List.mem_filter.mpr ⟨List.mem_of_getElem? (i := 929) (by decide +kernel), by decide +kernel⟩
theorem kRX6_100 : Cond.constantLong RX6 100 (9999) ∈ tb := List.mem_filter.mpr ⟨List.mem_of_getElem? (i := 930) (by decide +kernel), by decide +kernel⟩
theorem kRX6_134 : Cond.constantLong RX6 134 (-99) ∈ tb := List.mem_filter.mpr ⟨List.mem_of_getElem? (i := 993) (by decide +kernel), by decide +kernel⟩
theorem kRX6_145 : Cond.constantLong RX6 145 (60) ∈ tb := List.mem_filter.mpr ⟨List.mem_of_getElem? (i := 1002) (by decide +kernel), by decide +kernel⟩
theorem kRX6_166 : Cond.constantLong RX6 166 (4) ∈ tb := List.mem_filter.mpr ⟨List.mem_of_getElem? (i := 1039) (by decide +kernel), by decide +kernel⟩
theorem kRX6_177 : Cond.constantLong RX6 177 (200) ∈ tb := List.mem_filter.mpr ⟨List.mem_of_getElem? (i := 1107) (by decide +kernel), by decide +kernel⟩
theorem kRX6_208 : Cond.constantLong RX6 208 (12) ∈ tb := List.mem_filter.mpr ⟨List.mem_of_getElem? (i := 1157) (by decide +kernel), by decide +kernel⟩
theorem kRX6_210 : Cond.constantLong RX6 210 (3) ∈ tb := List.mem_filter.mpr ⟨List.mem_of_getElem? (i := 1158) (by decide +kernel), by decide +kernel⟩
theorem kRX6_212 : Cond.constantLong RX6 212 (5) ∈ tb := List.mem_filter.mpr ⟨List.mem_of_getElem? (i := 1159) (by decide +kernel), by decide +kernel⟩
theorem kRX6_300 : Cond.constantLong RX6 300 (-1) ∈ tb := List.mem_filter.mpr ⟨List.mem_of_getElem? (i := 1295) (by decide +kernel), by decide +kernel⟩
theorem lRX5_53 : MLk RX5 53 mX5_within := Or.inl (List.mem_filter.mpr ⟨List.mem_of_getElem? (i := 239) (by decide +kernel), by decide +kernel⟩)
theorem lRX5_57 : Cond.methodLink RX5 57 mX5_finding.1 ∈ tb := List.mem_filter.mpr ⟨List.mem_of_getElem? (i := 242) (by decide +kernel), by decide +kernel⟩
theorem lRX5_64 : MLk RX5 64 mX0_mayBe := Or.inl (List.mem_filter.mpr ⟨List.mem_of_getElem? (i := 251) (by decide +kernel), by decide +kernel⟩)
theorem lRX5_70 : Cond.methodLink RX5 70 mX1_isFull.1 ∈ tb := List.mem_filter.mpr ⟨List.mem_of_getElem? (i := 259) (by decide +kernel), by decide +kernel⟩
theorem lRX5_74 : Cond.methodLink RX5 74 mX1_addFarm.1 ∈ tb := List.mem_filter.mpr ⟨List.mem_of_getElem? (i := 263) (by decide +kernel), by decide +kernel⟩
theorem lRX5_78 : Cond.methodLink RX5 78 mX1_hasFarm.1 ∈ tb := List.mem_filter.mpr ⟨List.mem_of_getElem? (i := 275) (by decide +kernel), by decide +kernel⟩
theorem lRX5_90 : Cond.methodLink RX5 90 mX0_reapsOf.1 ∈ tb := List.mem_filter.mpr ⟨List.mem_of_getElem? (i := 280) (by decide +kernel), by decide +kernel⟩
theorem lRX5_93 : Cond.methodLink RX5 93 mX0_daysIn.1 ∈ tb := List.mem_filter.mpr ⟨List.mem_of_getElem? (i := 287) (by decide +kernel), by decide +kernel⟩
theorem lRX5_96 : Cond.methodLink RX5 96 mX0_tells.1 ∈ tb := List.mem_filter.mpr ⟨List.mem_of_getElem? (i := 297) (by decide +kernel), by decide +kernel⟩
theorem lRX5_100 : Cond.methodLink RX5 100 mX0_told.1 ∈ tb := List.mem_filter.mpr ⟨List.mem_of_getElem? (i := 304) (by decide +kernel), by decide +kernel⟩
theorem lRX5_103 : Cond.methodLink RX5 103 mX0_alter.1 ∈ tb := List.mem_filter.mpr ⟨List.mem_of_getElem? (i := 312) (by decide +kernel), by decide +kernel⟩
theorem lRX5_107 : Cond.methodLink RX5 107 mX0_leftBehind.1 ∈ tb := List.mem_filter.mpr ⟨List.mem_of_getElem? (i := 320) (by decide +kernel), by decide +kernel⟩
theorem lRX5_110 : Cond.methodLink RX5 110 mX1_latest.1 ∈ tb := List.mem_filter.mpr ⟨List.mem_of_getElem? (i := 328) (by decide +kernel), by decide +kernel⟩
theorem lRX5_113 : Cond.methodLink RX5 113 mX1_earliest.1 ∈ tb := List.mem_filter.mpr ⟨List.mem_of_getElem? (i := 342) (by decide +kernel), by decide +kernel⟩
theorem lRX5_116 : Cond.methodLink RX5 116 mX1_mostDays.1 ∈ tb := List.mem_filter.mpr ⟨List.mem_of_getElem? (i := 350) (by decide +kernel), by decide +kernel⟩
theorem lRX5_119 : Cond.methodLink RX5 119 mX1_latestBelow.1 ∈ tb := List.mem_filter.mpr ⟨List.mem_of_getElem? (i := 355) (by decide +kernel), by decide +kernel⟩
theorem lRX5_122 : Cond.methodLink RX5 122 mX1_leanNow.1 ∈ tb := List.mem_filter.mpr ⟨List.mem_of_getElem? (i := 360) (by decide +kernel), by decide +kernel⟩
theorem lRX5_125 : MLk RX5 125 mX5_isQuestion := Or.inl (List.mem_filter.mpr ⟨List.mem_of_getElem? (i := 379) (by decide +kernel), by decide +kernel⟩)
theorem lRX5_128 : Cond.methodLink RX5 128 mX1_answerTo.1 ∈ tb := List.mem_filter.mpr ⟨List.mem_of_getElem? (i := 382) (by decide +kernel), by decide +kernel⟩
theorem lRX5_135 : Cond.methodLink RX5 135 mX1_passYear.1 ∈ tb := List.mem_filter.mpr ⟨List.mem_of_getElem? (i := 391) (by decide +kernel), by decide +kernel⟩
theorem lRX5_138 : Cond.methodLink RX5 138 mX1_together.1 ∈ tb := List.mem_filter.mpr ⟨List.mem_of_getElem? (i := 415) (by decide +kernel), by decide +kernel⟩
theorem lRX5_141 : Cond.methodLink RX5 141 mX1_whoHadIt.1 ∈ tb := List.mem_filter.mpr ⟨List.mem_of_getElem? (i := 420) (by decide +kernel), by decide +kernel⟩
theorem lRX5_144 : MLk RX5 144 mX5_isAhead := Or.inl (List.mem_filter.mpr ⟨List.mem_of_getElem? (i := 428) (by decide +kernel), by decide +kernel⟩)
theorem lRX5_147 : Cond.methodLink RX5 147 mX5_trialBehind.1 ∈ tb := List.mem_filter.mpr ⟨List.mem_of_getElem? (i := 431) (by decide +kernel), by decide +kernel⟩
theorem lRX5_151 : Cond.methodLink RX5 151 mX1_becomes.1 ∈ tb := List.mem_filter.mpr ⟨List.mem_of_getElem? (i := 435) (by decide +kernel), by decide +kernel⟩
theorem lRX5_155 : Cond.methodLink RX5 155 mX1_isLatest.1 ∈ tb := List.mem_filter.mpr ⟨List.mem_of_getElem? (i := 458) (by decide +kernel), by decide +kernel⟩
theorem lRX5_158 : MLk RX5 158 mJ6_bitCount_0f7a4 := Or.inl (List.mem_filter.mpr ⟨List.mem_of_getElem? (i := 466) (by decide +kernel), by decide +kernel⟩)
theorem lRX5_169 : MLk RX5 169 mX5_isIn := Or.inl (List.mem_filter.mpr ⟨List.mem_of_getElem? (i := 486) (by decide +kernel), by decide +kernel⟩)
theorem lRX5_175 : Cond.methodLink RX5 175 mX5_isLatestIfLent.1 ∈ tb := List.mem_filter.mpr ⟨List.mem_of_getElem? (i := 491) (by decide +kernel), by decide +kernel⟩
theorem lRX5_181 : Cond.methodLink RX5 181 mX5_tryOpinion.1 ∈ tb := List.mem_filter.mpr ⟨List.mem_of_getElem? (i := 507) (by decide +kernel), by decide +kernel⟩
theorem lRX5_184 : Cond.methodLink RX5 184 mX1_leanBy.1 ∈ tb := List.mem_filter.mpr ⟨List.mem_of_getElem? (i := 511) (by decide +kernel), by decide +kernel⟩
theorem lRX5_190 : Cond.methodLink RX5 190 Lib.Math.abs.name ∈ tb := List.mem_filter.mpr ⟨List.mem_of_getElem? (i := 516) (by decide +kernel), by decide +kernel⟩
theorem lRX5_195 : MLk RX5 195 mX5_isCutting := Or.inl (List.mem_filter.mpr ⟨List.mem_of_getElem? (i := 525) (by decide +kernel), by decide +kernel⟩)
theorem lRX5_198 : MLk RX5 198 mX5_winningCut := Or.inl (List.mem_filter.mpr ⟨List.mem_of_getElem? (i := 528) (by decide +kernel), by decide +kernel⟩)
theorem lRX5_201 : Cond.methodLink RX5 201 Lib.Math.max.name ∈ tb := List.mem_filter.mpr ⟨List.mem_of_getElem? (i := 531) (by decide +kernel), by decide +kernel⟩
theorem lRX5_204 : Cond.methodLink RX5 204 mX5_refusalOfFit.1 ∈ tb := List.mem_filter.mpr ⟨List.mem_of_getElem? (i := 540) (by decide +kernel), by decide +kernel⟩
theorem lRX5_207 : Cond.methodLink RX5 207 mX5_opinionFits.1 ∈ tb := List.mem_filter.mpr ⟨List.mem_of_getElem? (i := 552) (by decide +kernel), by decide +kernel⟩
theorem lRX5_211 : Cond.methodLink RX5 211 mX5_refusalOfSheet.1 ∈ tb := List.mem_filter.mpr ⟨List.mem_of_getElem? (i := 544) (by decide +kernel), by decide +kernel⟩
theorem lRX5_220 : Cond.methodLink RX5 220 mX1_draw.1 ∈ tb := List.mem_filter.mpr ⟨List.mem_of_getElem? (i := 564) (by decide +kernel), by decide +kernel⟩
theorem lRX5_233 : Cond.methodLink RX5 233 mX3_add.1 ∈ tb := List.mem_filter.mpr ⟨List.mem_of_getElem? (i := 583) (by decide +kernel), by decide +kernel⟩
theorem lRX5_237 : Cond.methodLink RX5 237 mX4_readItems.1 ∈ tb := List.mem_filter.mpr ⟨List.mem_of_getElem? (i := 595) (by decide +kernel), by decide +kernel⟩
theorem lRX5_243 : Cond.methodLink RX5 243 mX0_isOfKind.1 ∈ tb := List.mem_filter.mpr ⟨List.mem_of_getElem? (i := 726) (by decide +kernel), by decide +kernel⟩
theorem lRX5_246 : MLk RX5 246 mX2_mayHave := Or.inl (List.mem_filter.mpr ⟨List.mem_of_getElem? (i := 736) (by decide +kernel), by decide +kernel⟩)
theorem lRX5_249 : Cond.methodLink RX5 249 mX2_begin.1 ∈ tb := List.mem_filter.mpr ⟨List.mem_of_getElem? (i := 739) (by decide +kernel), by decide +kernel⟩
theorem lRX5_252 : Cond.methodLink RX5 252 mX2_put.1 ∈ tb := List.mem_filter.mpr ⟨List.mem_of_getElem? (i := 747) (by decide +kernel), by decide +kernel⟩
theorem lRX5_255 : Cond.methodLink RX5 255 mX2_isMissing.1 ∈ tb := List.mem_filter.mpr ⟨List.mem_of_getElem? (i := 548) (by decide +kernel), by decide +kernel⟩
theorem lRX5_261 : Cond.methodLink RX5 261 mX2_hasRow.1 ∈ tb := List.mem_filter.mpr ⟨List.mem_of_getElem? (i := 755) (by decide +kernel), by decide +kernel⟩
theorem lRX5_264 : Cond.methodLink RX5 264 arraycopyName ∈ tb := List.mem_filter.mpr ⟨List.mem_of_getElem? (i := 759) (by decide +kernel), by decide +kernel⟩
theorem lRX5_270 : Cond.methodLink RX5 270 Lib.Math.min.name ∈ tb := List.mem_filter.mpr ⟨List.mem_of_getElem? (i := 764) (by decide +kernel), by decide +kernel⟩
theorem lRX5_273 : Cond.methodLink RX5 273 mX1_spotsHeld.1 ∈ tb := List.mem_filter.mpr ⟨List.mem_of_getElem? (i := 785) (by decide +kernel), by decide +kernel⟩
theorem lRX0_47 : Cond.methodLink RX0 47 Lib.Math.max.name ∈ tb := List.mem_filter.mpr ⟨List.mem_of_getElem? (i := 284) (by decide +kernel), by decide +kernel⟩
theorem lRX0_56 : Cond.methodLink RX0 56 mX0_reapsOf.1 ∈ tb := List.mem_filter.mpr ⟨List.mem_of_getElem? (i := 293) (by decide +kernel), by decide +kernel⟩
theorem lRX0_59 : MLk RX0 59 mX0_daysDownTo := Or.inl (List.mem_filter.mpr ⟨List.mem_of_getElem? (i := 294) (by decide +kernel), by decide +kernel⟩)
theorem lRX0_63 : Cond.methodLink RX0 63 Lib.Math.min.name ∈ tb := List.mem_filter.mpr ⟨List.mem_of_getElem? (i := 301) (by decide +kernel), by decide +kernel⟩
theorem lRX0_66 : Cond.methodLink RX0 66 mX0_alter.1 ∈ tb := List.mem_filter.mpr ⟨List.mem_of_getElem? (i := 400) (by decide +kernel), by decide +kernel⟩
theorem lRX1_29 : Cond.methodLink RX1 29 arraycopyName ∈ tb := List.mem_filter.mpr ⟨List.mem_of_getElem? (i := 439) (by decide +kernel), by decide +kernel⟩
theorem lRX1_38 : Cond.methodLink RX1 38 mX0_becomes.1 ∈ tb := List.mem_filter.mpr ⟨List.mem_of_getElem? (i := 442) (by decide +kernel), by decide +kernel⟩
theorem lRX1_49 : Cond.methodLink RX1 49 mX0_begin.1 ∈ tb := List.mem_filter.mpr ⟨List.mem_of_getElem? (i := 267) (by decide +kernel), by decide +kernel⟩
theorem lRX1_53 : Cond.methodLink RX1 53 mX0_daysIn.1 ∈ tb := List.mem_filter.mpr ⟨List.mem_of_getElem? (i := 337) (by decide +kernel), by decide +kernel⟩
theorem lRX1_57 : Cond.methodLink RX1 57 Lib.Math.max.name ∈ tb := List.mem_filter.mpr ⟨List.mem_of_getElem? (i := 354) (by decide +kernel), by decide +kernel⟩
theorem lRX1_64 : Cond.methodLink RX1 64 mX1_latestBelow.1 ∈ tb := List.mem_filter.mpr ⟨List.mem_of_getElem? (i := 333) (by decide +kernel), by decide +kernel⟩
theorem lRX1_71 : Cond.methodLink RX1 71 mX1_leanBy.1 ∈ tb := List.mem_filter.mpr ⟨List.mem_of_getElem? (i := 364) (by decide +kernel), by decide +kernel⟩
theorem lRX1_77 : Cond.methodLink RX1 77 mX0_tells.1 ∈ tb := List.mem_filter.mpr ⟨List.mem_of_getElem? (i := 371) (by decide +kernel), by decide +kernel⟩
theorem lRX1_81 : Cond.methodLink RX1 81 Lib.Math.abs.name ∈ tb := List.mem_filter.mpr ⟨List.mem_of_getElem? (i := 372) (by decide +kernel), by decide +kernel⟩
theorem lRX1_84 : Cond.methodLink RX1 84 mX1_earliest.1 ∈ tb := List.mem_filter.mpr ⟨List.mem_of_getElem? (i := 395) (by decide +kernel), by decide +kernel⟩
theorem lRX1_87 : Cond.methodLink RX1 87 mX0_hasTheSheaf.1 ∈ tb := List.mem_filter.mpr ⟨List.mem_of_getElem? (i := 396) (by decide +kernel), by decide +kernel⟩
theorem lRX1_90 : Cond.methodLink RX1 90 mX0_losesHand.1 ∈ tb := List.mem_filter.mpr ⟨List.mem_of_getElem? (i := 401) (by decide +kernel), by decide +kernel⟩
theorem lRX1_93 : Cond.methodLink RX1 93 mX0_heeds.1 ∈ tb := List.mem_filter.mpr ⟨List.mem_of_getElem? (i := 405) (by decide +kernel), by decide +kernel⟩
theorem lRX1_98 : Cond.methodLink RX1 98 Lib.Math.min.name ∈ tb := List.mem_filter.mpr ⟨List.mem_of_getElem? (i := 410) (by decide +kernel), by decide +kernel⟩
theorem lRX1_101 : Cond.methodLink RX1 101 mX0_told.1 ∈ tb := List.mem_filter.mpr ⟨List.mem_of_getElem? (i := 419) (by decide +kernel), by decide +kernel⟩
theorem lRX3_31 : Cond.methodLink RX3 31 mX3_advance.1 ∈ tb := List.mem_filter.mpr ⟨List.mem_of_getElem? (i := 603) (by decide +kernel), by decide +kernel⟩
theorem lRX3_34 : MLk RX3 34 mX3_isLetter := Or.inl (List.mem_filter.mpr ⟨List.mem_of_getElem? (i := 607) (by decide +kernel), by decide +kernel⟩)
theorem lRX3_38 : MLk RX3 38 mX3_isDigit := Or.inl (List.mem_filter.mpr ⟨List.mem_of_getElem? (i := 610) (by decide +kernel), by decide +kernel⟩)
theorem lRX3_41 : Cond.methodLink RX3 41 Lib.Math.min.name ∈ tb := List.mem_filter.mpr ⟨List.mem_of_getElem? (i := 613) (by decide +kernel), by decide +kernel⟩
theorem lRX3_47 : MLk RX3 47 mX3_sortOfSign := Or.inl (List.mem_filter.mpr ⟨List.mem_of_getElem? (i := 614) (by decide +kernel), by decide +kernel⟩)
theorem lRX3_55 : Cond.methodLink RX3 55 mJ0_length_8abf5.1 ∈ tb := List.mem_filter.mpr ⟨List.mem_of_getElem? (i := 635) (by decide +kernel), by decide +kernel⟩
theorem lRX3_61 : Cond.methodLink RX3 61 mJ0_charAt_5068e.1 ∈ tb := List.mem_filter.mpr ⟨List.mem_of_getElem? (i := 645) (by decide +kernel), by decide +kernel⟩
theorem lRX4_19 : Cond.methodLink RX4 19 mX3_lookFromBegin.1 ∈ tb := List.mem_filter.mpr ⟨List.mem_of_getElem? (i := 599) (by decide +kernel), by decide +kernel⟩
theorem lRX4_24 : Cond.methodLink RX4 24 mX4_readsItem.1 ∈ tb := List.mem_filter.mpr ⟨List.mem_of_getElem? (i := 617) (by decide +kernel), by decide +kernel⟩
theorem lRX4_32 : Cond.methodLink RX4 32 mX3_advance.1 ∈ tb := List.mem_filter.mpr ⟨List.mem_of_getElem? (i := 688) (by decide +kernel), by decide +kernel⟩
theorem lRX4_38 : MLk RX4 38 mX4_wordOfKind := Or.inl (List.mem_filter.mpr ⟨List.mem_of_getElem? (i := 621) (by decide +kernel), by decide +kernel⟩)
theorem lRX4_42 : Cond.methodLink RX4 42 mX3_isWord.1 ∈ tb := List.mem_filter.mpr ⟨List.mem_of_getElem? (i := 631) (by decide +kernel), by decide +kernel⟩
theorem lRX4_46 : Cond.methodLink RX4 46 mX1_isFull.1 ∈ tb := List.mem_filter.mpr ⟨List.mem_of_getElem? (i := 683) (by decide +kernel), by decide +kernel⟩
theorem lRX4_51 : Cond.methodLink RX4 51 mX4_readsFarm.1 ∈ tb := List.mem_filter.mpr ⟨List.mem_of_getElem? (i := 684) (by decide +kernel), by decide +kernel⟩
theorem lRX4_55 : MLk RX4 55 mX4_wordOfWeather := Or.inl (List.mem_filter.mpr ⟨List.mem_of_getElem? (i := 708) (by decide +kernel), by decide +kernel⟩)
theorem lRX4_58 : Cond.methodLink RX4 58 mX4_readsWeather.1 ∈ tb := List.mem_filter.mpr ⟨List.mem_of_getElem? (i := 714) (by decide +kernel), by decide +kernel⟩
theorem lRX4_61 : Cond.methodLink RX4 61 mX3_isNumber.1 ∈ tb := List.mem_filter.mpr ⟨List.mem_of_getElem? (i := 691) (by decide +kernel), by decide +kernel⟩
theorem lRX4_82 : Cond.methodLink RX4 82 mX1_addFarm.1 ∈ tb := List.mem_filter.mpr ⟨List.mem_of_getElem? (i := 696) (by decide +kernel), by decide +kernel⟩
theorem lRX4_86 : Cond.methodLink RX4 86 mX4_readsHands.1 ∈ tb := List.mem_filter.mpr ⟨List.mem_of_getElem? (i := 697) (by decide +kernel), by decide +kernel⟩
theorem lRX4_90 : Cond.methodLink RX4 90 mX4_readsOpinion.1 ∈ tb := List.mem_filter.mpr ⟨List.mem_of_getElem? (i := 703) (by decide +kernel), by decide +kernel⟩
theorem lRX4_95 : Cond.methodLink RX4 95 mX0_alter.1 ∈ tb := List.mem_filter.mpr ⟨List.mem_of_getElem? (i := 702) (by decide +kernel), by decide +kernel⟩
theorem lRL_13 : Cond.methodLink RL 13 mX5_weather.1 ∈ tb := List.mem_filter.mpr ⟨List.mem_of_getElem? (i := 235) (by decide +kernel), by decide +kernel⟩
theorem lRL_17 : Cond.methodLink RL 17 mX6_weather.1 ∈ tb := List.mem_filter.mpr ⟨List.mem_of_getElem? (i := 860) (by decide +kernel), by decide +kernel⟩
theorem lRL_18 : Cond.methodLink RL 18 mX5_farm.1 ∈ tb := List.mem_filter.mpr ⟨List.mem_of_getElem? (i := 247) (by decide +kernel), by decide +kernel⟩
theorem lRL_21 : Cond.methodLink RL 21 mX6_farm.1 ∈ tb := List.mem_filter.mpr ⟨List.mem_of_getElem? (i := 878) (by decide +kernel), by decide +kernel⟩
theorem lRL_22 : Cond.methodLink RL 22 mX5_of.1 ∈ tb := List.mem_filter.mpr ⟨List.mem_of_getElem? (i := 271) (by decide +kernel), by decide +kernel⟩
theorem lRL_25 : Cond.methodLink RL 25 mX6_of.1 ∈ tb := List.mem_filter.mpr ⟨List.mem_of_getElem? (i := 889) (by decide +kernel), by decide +kernel⟩
theorem lRL_26 : Cond.methodLink RL 26 mX5_change.1 ∈ tb := List.mem_filter.mpr ⟨List.mem_of_getElem? (i := 308) (by decide +kernel), by decide +kernel⟩
theorem lRL_30 : Cond.methodLink RL 30 mX6_change.1 ∈ tb := List.mem_filter.mpr ⟨List.mem_of_getElem? (i := 920) (by decide +kernel), by decide +kernel⟩
theorem lRL_31 : Cond.methodLink RL 31 mX5_left.1 ∈ tb := List.mem_filter.mpr ⟨List.mem_of_getElem? (i := 316) (by decide +kernel), by decide +kernel⟩
theorem lRL_34 : Cond.methodLink RL 34 mX6_left.1 ∈ tb := List.mem_filter.mpr ⟨List.mem_of_getElem? (i := 931) (by decide +kernel), by decide +kernel⟩
theorem lRL_35 : Cond.methodLink RL 35 mX5_last.1 ∈ tb := List.mem_filter.mpr ⟨List.mem_of_getElem? (i := 324) (by decide +kernel), by decide +kernel⟩
theorem lRL_39 : Cond.methodLink RL 39 mX6_last.1 ∈ tb := List.mem_filter.mpr ⟨List.mem_of_getElem? (i := 939) (by decide +kernel), by decide +kernel⟩
theorem lRL_40 : Cond.methodLink RL 40 mX5_first.1 ∈ tb := List.mem_filter.mpr ⟨List.mem_of_getElem? (i := 338) (by decide +kernel), by decide +kernel⟩
theorem lRL_43 : Cond.methodLink RL 43 mX6_first.1 ∈ tb := List.mem_filter.mpr ⟨List.mem_of_getElem? (i := 959) (by decide +kernel), by decide +kernel⟩
theorem lRL_44 : Cond.methodLink RL 44 mX5_next.1 ∈ tb := List.mem_filter.mpr ⟨List.mem_of_getElem? (i := 346) (by decide +kernel), by decide +kernel⟩
theorem lRL_47 : Cond.methodLink RL 47 mX6_next.1 ∈ tb := List.mem_filter.mpr ⟨List.mem_of_getElem? (i := 967) (by decide +kernel), by decide +kernel⟩
theorem lRL_48 : Cond.methodLink RL 48 mX5_lean.1 ∈ tb := List.mem_filter.mpr ⟨List.mem_of_getElem? (i := 356) (by decide +kernel), by decide +kernel⟩
theorem lRL_51 : Cond.methodLink RL 51 mX6_lean.1 ∈ tb := List.mem_filter.mpr ⟨List.mem_of_getElem? (i := 971) (by decide +kernel), by decide +kernel⟩
theorem lRL_52 : Cond.methodLink RL 52 mX5_answer.1 ∈ tb := List.mem_filter.mpr ⟨List.mem_of_getElem? (i := 375) (by decide +kernel), by decide +kernel⟩
theorem lRL_56 : Cond.methodLink RL 56 mX6_answer.1 ∈ tb := List.mem_filter.mpr ⟨List.mem_of_getElem? (i := 986) (by decide +kernel), by decide +kernel⟩
theorem lRL_57 : Cond.methodLink RL 57 mX5_go.1 ∈ tb := List.mem_filter.mpr ⟨List.mem_of_getElem? (i := 386) (by decide +kernel), by decide +kernel⟩
theorem lRL_60 : Cond.methodLink RL 60 mX6_go.1 ∈ tb := List.mem_filter.mpr ⟨List.mem_of_getElem? (i := 998) (by decide +kernel), by decide +kernel⟩
theorem lRL_61 : Cond.methodLink RL 61 mX5_now.1 ∈ tb := List.mem_filter.mpr ⟨List.mem_of_getElem? (i := 411) (by decide +kernel), by decide +kernel⟩
theorem lRL_64 : Cond.methodLink RL 64 mX6_now.1 ∈ tb := List.mem_filter.mpr ⟨List.mem_of_getElem? (i := 1013) (by decide +kernel), by decide +kernel⟩
theorem lRL_65 : Cond.methodLink RL 65 mX5_holder.1 ∈ tb := List.mem_filter.mpr ⟨List.mem_of_getElem? (i := 424) (by decide +kernel), by decide +kernel⟩
theorem lRL_68 : Cond.methodLink RL 68 mX6_holder.1 ∈ tb := List.mem_filter.mpr ⟨List.mem_of_getElem? (i := 1025) (by decide +kernel), by decide +kernel⟩
theorem lRL_69 : Cond.methodLink RL 69 mX5_ahead.1 ∈ tb := List.mem_filter.mpr ⟨List.mem_of_getElem? (i := 446) (by decide +kernel), by decide +kernel⟩
theorem lRL_72 : Cond.methodLink RL 72 mX6_ahead.1 ∈ tb := List.mem_filter.mpr ⟨List.mem_of_getElem? (i := 1035) (by decide +kernel), by decide +kernel⟩
theorem lRL_73 : Cond.methodLink RL 73 mX5_leans.1 ∈ tb := List.mem_filter.mpr ⟨List.mem_of_getElem? (i := 450) (by decide +kernel), by decide +kernel⟩
theorem lRL_76 : Cond.methodLink RL 76 mX6_leans.1 ∈ tb := List.mem_filter.mpr ⟨List.mem_of_getElem? (i := 1040) (by decide +kernel), by decide +kernel⟩
theorem lRL_77 : Cond.methodLink RL 77 mX5_when.1 ∈ tb := List.mem_filter.mpr ⟨List.mem_of_getElem? (i := 454) (by decide +kernel), by decide +kernel⟩
theorem lRL_80 : Cond.methodLink RL 80 mX6_when.1 ∈ tb := List.mem_filter.mpr ⟨List.mem_of_getElem? (i := 1044) (by decide +kernel), by decide +kernel⟩
theorem lRL_81 : Cond.methodLink RL 81 mX5_tie.1 ∈ tb := List.mem_filter.mpr ⟨List.mem_of_getElem? (i := 462) (by decide +kernel), by decide +kernel⟩
theorem lRL_84 : Cond.methodLink RL 84 mX6_tie.1 ∈ tb := List.mem_filter.mpr ⟨List.mem_of_getElem? (i := 1049) (by decide +kernel), by decide +kernel⟩
theorem lRL_85 : Cond.methodLink RL 85 mX5_turns.1 ∈ tb := List.mem_filter.mpr ⟨List.mem_of_getElem? (i := 472) (by decide +kernel), by decide +kernel⟩
theorem lRL_88 : Cond.methodLink RL 88 mX6_turns.1 ∈ tb := List.mem_filter.mpr ⟨List.mem_of_getElem? (i := 1056) (by decide +kernel), by decide +kernel⟩
theorem lRL_89 : Cond.methodLink RL 89 mX5_mostHands.1 ∈ tb := List.mem_filter.mpr ⟨List.mem_of_getElem? (i := 476) (by decide +kernel), by decide +kernel⟩
theorem lRL_92 : Cond.methodLink RL 92 mX6_mostHands.1 ∈ tb := List.mem_filter.mpr ⟨List.mem_of_getElem? (i := 1060) (by decide +kernel), by decide +kernel⟩
theorem lRL_93 : Cond.methodLink RL 93 mX5_fewestHands.1 ∈ tb := List.mem_filter.mpr ⟨List.mem_of_getElem? (i := 482) (by decide +kernel), by decide +kernel⟩
theorem lRL_96 : Cond.methodLink RL 96 mX6_fewestHands.1 ∈ tb := List.mem_filter.mpr ⟨List.mem_of_getElem? (i := 1068) (by decide +kernel), by decide +kernel⟩
theorem lRL_97 : Cond.methodLink RL 97 mX5_lend.1 ∈ tb := List.mem_filter.mpr ⟨List.mem_of_getElem? (i := 487) (by decide +kernel), by decide +kernel⟩
theorem lRL_100 : Cond.methodLink RL 100 mX6_lend.1 ∈ tb := List.mem_filter.mpr ⟨List.mem_of_getElem? (i := 1076) (by decide +kernel), by decide +kernel⟩
theorem lRL_101 : Cond.methodLink RL 101 mX5_kinds.1 ∈ tb := List.mem_filter.mpr ⟨List.mem_of_getElem? (i := 495) (by decide +kernel), by decide +kernel⟩
theorem lRL_104 : Cond.methodLink RL 104 mX6_kinds.1 ∈ tb := List.mem_filter.mpr ⟨List.mem_of_getElem? (i := 1080) (by decide +kernel), by decide +kernel⟩
theorem lRL_105 : Cond.methodLink RL 105 mX5_wetFor.1 ∈ tb := List.mem_filter.mpr ⟨List.mem_of_getElem? (i := 499) (by decide +kernel), by decide +kernel⟩
theorem lRL_108 : Cond.methodLink RL 108 mX6_wetFor.1 ∈ tb := List.mem_filter.mpr ⟨List.mem_of_getElem? (i := 1084) (by decide +kernel), by decide +kernel⟩
theorem lRL_109 : Cond.methodLink RL 109 mX5_tell.1 ∈ tb := List.mem_filter.mpr ⟨List.mem_of_getElem? (i := 503) (by decide +kernel), by decide +kernel⟩
theorem lRL_112 : Cond.methodLink RL 112 mX6_tell.1 ∈ tb := List.mem_filter.mpr ⟨List.mem_of_getElem? (i := 1088) (by decide +kernel), by decide +kernel⟩
theorem lRL_113 : Cond.methodLink RL 113 mX5_voice.1 ∈ tb := List.mem_filter.mpr ⟨List.mem_of_getElem? (i := 512) (by decide +kernel), by decide +kernel⟩
theorem lRL_116 : Cond.methodLink RL 116 mX6_voice.1 ∈ tb := List.mem_filter.mpr ⟨List.mem_of_getElem? (i := 1092) (by decide +kernel), by decide +kernel⟩
theorem lRL_117 : Cond.methodLink RL 117 mX5_miceFor.1 ∈ tb := List.mem_filter.mpr ⟨List.mem_of_getElem? (i := 517) (by decide +kernel), by decide +kernel⟩
theorem lRL_120 : Cond.methodLink RL 120 mX6_miceFor.1 ∈ tb := List.mem_filter.mpr ⟨List.mem_of_getElem? (i := 1096) (by decide +kernel), by decide +kernel⟩
theorem lRL_121 : Cond.methodLink RL 121 mX5_wins.1 ∈ tb := List.mem_filter.mpr ⟨List.mem_of_getElem? (i := 521) (by decide +kernel), by decide +kernel⟩
theorem lRL_124 : Cond.methodLink RL 124 mX6_wins.1 ∈ tb := List.mem_filter.mpr ⟨List.mem_of_getElem? (i := 1100) (by decide +kernel), by decide +kernel⟩
theorem lRL_125 : Cond.methodLink RL 125 mX5_cut.1 ∈ tb := List.mem_filter.mpr ⟨List.mem_of_getElem? (i := 532) (by decide +kernel), by decide +kernel⟩
theorem lRL_128 : Cond.methodLink RL 128 mX6_cut.1 ∈ tb := List.mem_filter.mpr ⟨List.mem_of_getElem? (i := 1112) (by decide +kernel), by decide +kernel⟩
theorem lRL_129 : Cond.methodLink RL 129 mX5_fits.1 ∈ tb := List.mem_filter.mpr ⟨List.mem_of_getElem? (i := 536) (by decide +kernel), by decide +kernel⟩
theorem lRL_132 : Cond.methodLink RL 132 mX6_fits.1 ∈ tb := List.mem_filter.mpr ⟨List.mem_of_getElem? (i := 1116) (by decide +kernel), by decide +kernel⟩
theorem lRL_133 : Cond.methodLink RL 133 mX5_thinks.1 ∈ tb := List.mem_filter.mpr ⟨List.mem_of_getElem? (i := 556) (by decide +kernel), by decide +kernel⟩
theorem lRL_136 : Cond.methodLink RL 136 mX6_thinks.1 ∈ tb := List.mem_filter.mpr ⟨List.mem_of_getElem? (i := 1140) (by decide +kernel), by decide +kernel⟩
theorem lRL_137 : Cond.methodLink RL 137 mX5_weathers.1 ∈ tb := List.mem_filter.mpr ⟨List.mem_of_getElem? (i := 560) (by decide +kernel), by decide +kernel⟩
theorem lRL_140 : Cond.methodLink RL 140 mX6_weathers.1 ∈ tb := List.mem_filter.mpr ⟨List.mem_of_getElem? (i := 1144) (by decide +kernel), by decide +kernel⟩
theorem lRL_141 : Cond.methodLink RL 141 mX5_odds.1 ∈ tb := List.mem_filter.mpr ⟨List.mem_of_getElem? (i := 569) (by decide +kernel), by decide +kernel⟩
theorem lRL_145 : Cond.methodLink RL 145 mX6_odds.1 ∈ tb := List.mem_filter.mpr ⟨List.mem_of_getElem? (i := 1153) (by decide +kernel), by decide +kernel⟩
theorem lRL_146 : Cond.methodLink RL 146 mX5_seed.1 ∈ tb := List.mem_filter.mpr ⟨List.mem_of_getElem? (i := 575) (by decide +kernel), by decide +kernel⟩
theorem lRL_149 : Cond.methodLink RL 149 mX6_seed.1 ∈ tb := List.mem_filter.mpr ⟨List.mem_of_getElem? (i := 1160) (by decide +kernel), by decide +kernel⟩
theorem lRL_150 : Cond.methodLink RL 150 mX5_feed.1 ∈ tb := List.mem_filter.mpr ⟨List.mem_of_getElem? (i := 579) (by decide +kernel), by decide +kernel⟩
theorem lRL_153 : Cond.methodLink RL 153 mX6_feed.1 ∈ tb := List.mem_filter.mpr ⟨List.mem_of_getElem? (i := 1164) (by decide +kernel), by decide +kernel⟩
theorem lRL_154 : Cond.methodLink RL 154 mX5_wipe.1 ∈ tb := List.mem_filter.mpr ⟨List.mem_of_getElem? (i := 587) (by decide +kernel), by decide +kernel⟩
theorem lRL_157 : Cond.methodLink RL 157 mX6_wipe.1 ∈ tb := List.mem_filter.mpr ⟨List.mem_of_getElem? (i := 1168) (by decide +kernel), by decide +kernel⟩
theorem lRL_158 : Cond.methodLink RL 158 mX5_text.1 ∈ tb := List.mem_filter.mpr ⟨List.mem_of_getElem? (i := 591) (by decide +kernel), by decide +kernel⟩
theorem lRL_161 : Cond.methodLink RL 161 mX6_text.1 ∈ tb := List.mem_filter.mpr ⟨List.mem_of_getElem? (i := 1172) (by decide +kernel), by decide +kernel⟩
theorem lRL_162 : Cond.methodLink RL 162 mX5_hold.1 ∈ tb := List.mem_filter.mpr ⟨List.mem_of_getElem? (i := 718) (by decide +kernel), by decide +kernel⟩
theorem lRL_165 : Cond.methodLink RL 165 mX6_hold.1 ∈ tb := List.mem_filter.mpr ⟨List.mem_of_getElem? (i := 1242) (by decide +kernel), by decide +kernel⟩
theorem lRL_166 : Cond.methodLink RL 166 mX5_as.1 ∈ tb := List.mem_filter.mpr ⟨List.mem_of_getElem? (i := 722) (by decide +kernel), by decide +kernel⟩
theorem lRL_169 : Cond.methodLink RL 169 mX6_as.1 ∈ tb := List.mem_filter.mpr ⟨List.mem_of_getElem? (i := 1246) (by decide +kernel), by decide +kernel⟩
theorem lRL_170 : Cond.methodLink RL 170 mX5_sheet.1 ∈ tb := List.mem_filter.mpr ⟨List.mem_of_getElem? (i := 732) (by decide +kernel), by decide +kernel⟩
theorem lRL_173 : Cond.methodLink RL 173 mX6_sheet.1 ∈ tb := List.mem_filter.mpr ⟨List.mem_of_getElem? (i := 1254) (by decide +kernel), by decide +kernel⟩
theorem lRL_174 : Cond.methodLink RL 174 mX5_write.1 ∈ tb := List.mem_filter.mpr ⟨List.mem_of_getElem? (i := 743) (by decide +kernel), by decide +kernel⟩
theorem lRL_177 : Cond.methodLink RL 177 mX6_write.1 ∈ tb := List.mem_filter.mpr ⟨List.mem_of_getElem? (i := 1259) (by decide +kernel), by decide +kernel⟩
theorem lRL_178 : Cond.methodLink RL 178 mX5_copy.1 ∈ tb := List.mem_filter.mpr ⟨List.mem_of_getElem? (i := 751) (by decide +kernel), by decide +kernel⟩
theorem lRL_182 : Cond.methodLink RL 182 mX6_copy.1 ∈ tb := List.mem_filter.mpr ⟨List.mem_of_getElem? (i := 1263) (by decide +kernel), by decide +kernel⟩
theorem lRL_183 : Cond.methodLink RL 183 mX5_load.1 ∈ tb := List.mem_filter.mpr ⟨List.mem_of_getElem? (i := 760) (by decide +kernel), by decide +kernel⟩
theorem lRL_186 : Cond.methodLink RL 186 mX6_load.1 ∈ tb := List.mem_filter.mpr ⟨List.mem_of_getElem? (i := 1267) (by decide +kernel), by decide +kernel⟩
theorem lRL_187 : Cond.methodLink RL 187 mX5_judge.1 ∈ tb := List.mem_filter.mpr ⟨List.mem_of_getElem? (i := 765) (by decide +kernel), by decide +kernel⟩
theorem lRL_190 : Cond.methodLink RL 190 mX6_judge.1 ∈ tb := List.mem_filter.mpr ⟨List.mem_of_getElem? (i := 1271) (by decide +kernel), by decide +kernel⟩
theorem lRL_191 : Cond.methodLink RL 191 mX5_image.1 ∈ tb := List.mem_filter.mpr ⟨List.mem_of_getElem? (i := 769) (by decide +kernel), by decide +kernel⟩
theorem lRL_194 : Cond.methodLink RL 194 mX6_image.1 ∈ tb := List.mem_filter.mpr ⟨List.mem_of_getElem? (i := 1275) (by decide +kernel), by decide +kernel⟩
theorem lRL_195 : Cond.methodLink RL 195 mX5_undo.1 ∈ tb := List.mem_filter.mpr ⟨List.mem_of_getElem? (i := 773) (by decide +kernel), by decide +kernel⟩
theorem lRL_198 : Cond.methodLink RL 198 mX6_undo.1 ∈ tb := List.mem_filter.mpr ⟨List.mem_of_getElem? (i := 1279) (by decide +kernel), by decide +kernel⟩
theorem lRL_199 : Cond.methodLink RL 199 mX5_tear.1 ∈ tb := List.mem_filter.mpr ⟨List.mem_of_getElem? (i := 777) (by decide +kernel), by decide +kernel⟩
theorem lRL_202 : Cond.methodLink RL 202 mX6_tear.1 ∈ tb := List.mem_filter.mpr ⟨List.mem_of_getElem? (i := 1283) (by decide +kernel), by decide +kernel⟩
theorem lRL_203 : Cond.methodLink RL 203 mX5_count.1 ∈ tb := List.mem_filter.mpr ⟨List.mem_of_getElem? (i := 781) (by decide +kernel), by decide +kernel⟩
theorem lRL_206 : Cond.methodLink RL 206 mX6_count.1 ∈ tb := List.mem_filter.mpr ⟨List.mem_of_getElem? (i := 1287) (by decide +kernel), by decide +kernel⟩
theorem lRL_207 : Cond.methodLink RL 207 mX5_status.1 ∈ tb := List.mem_filter.mpr ⟨List.mem_of_getElem? (i := 789) (by decide +kernel), by decide +kernel⟩
theorem lRL_210 : Cond.methodLink RL 210 mX6_status.1 ∈ tb := List.mem_filter.mpr ⟨List.mem_of_getElem? (i := 1291) (by decide +kernel), by decide +kernel⟩
theorem lRX6_45 : Cond.methodLink RX6 45 mX6_finds.1 ∈ tb := List.mem_filter.mpr ⟨List.mem_of_getElem? (i := 874) (by decide +kernel), by decide +kernel⟩
theorem lRX6_51 : MLk RX6 51 mX6_isIn := Or.inl (List.mem_filter.mpr ⟨List.mem_of_getElem? (i := 865) (by decide +kernel), by decide +kernel⟩)
theorem lRX6_57 : Cond.methodLink RX6 57 mX6_becomes.1 ∈ tb := List.mem_filter.mpr ⟨List.mem_of_getElem? (i := 869) (by decide +kernel), by decide +kernel⟩
theorem lRX6_66 : Cond.methodLink RX6 66 mX6_comes.1 ∈ tb := List.mem_filter.mpr ⟨List.mem_of_getElem? (i := 885) (by decide +kernel), by decide +kernel⟩
theorem lRX6_70 : Cond.methodLink RX6 70 mX6_its.1 ∈ tb := List.mem_filter.mpr ⟨List.mem_of_getElem? (i := 898) (by decide +kernel), by decide +kernel⟩
theorem lRX6_73 : MLk RX6 73 mX6_greatest := Or.inl (List.mem_filter.mpr ⟨List.mem_of_getElem? (i := 906) (by decide +kernel), by decide +kernel⟩)
theorem lRX6_76 : Cond.methodLink RX6 76 mX6_reaps.1 ∈ tb := List.mem_filter.mpr ⟨List.mem_of_getElem? (i := 902) (by decide +kernel), by decide +kernel⟩
theorem lRX6_79 : MLk RX6 79 mX6_least := Or.inl (List.mem_filter.mpr ⟨List.mem_of_getElem? (i := 917) (by decide +kernel), by decide +kernel⟩)
theorem lRX6_82 : Cond.methodLink RX6 82 mX6_isFarm.1 ∈ tb := List.mem_filter.mpr ⟨List.mem_of_getElem? (i := 893) (by decide +kernel), by decide +kernel⟩
theorem lRX6_88 : Cond.methodLink RX6 88 mX6_days.1 ∈ tb := List.mem_filter.mpr ⟨List.mem_of_getElem? (i := 909) (by decide +kernel), by decide +kernel⟩
theorem lRX6_91 : Cond.methodLink RX6 91 mX6_tells.1 ∈ tb := List.mem_filter.mpr ⟨List.mem_of_getElem? (i := 913) (by decide +kernel), by decide +kernel⟩
theorem lRX6_102 : MLk RX6 102 mX6_isFit := Or.inl (List.mem_filter.mpr ⟨List.mem_of_getElem? (i := 924) (by decide +kernel), by decide +kernel⟩)
theorem lRX6_106 : Cond.methodLink RX6 106 mX6_leftBehind.1 ∈ tb := List.mem_filter.mpr ⟨List.mem_of_getElem? (i := 935) (by decide +kernel), by decide +kernel⟩
theorem lRX6_109 : Cond.methodLink RX6 109 mX6_countsDays.1 ∈ tb := List.mem_filter.mpr ⟨List.mem_of_getElem? (i := 947) (by decide +kernel), by decide +kernel⟩
theorem lRX6_112 : Cond.methodLink RX6 112 mX6_mostDays.1 ∈ tb := List.mem_filter.mpr ⟨List.mem_of_getElem? (i := 951) (by decide +kernel), by decide +kernel⟩
theorem lRX6_116 : Cond.methodLink RX6 116 mX6_withDays.1 ∈ tb := List.mem_filter.mpr ⟨List.mem_of_getElem? (i := 955) (by decide +kernel), by decide +kernel⟩
theorem lRX6_119 : Cond.methodLink RX6 119 mX6_lasts.1 ∈ tb := List.mem_filter.mpr ⟨List.mem_of_getElem? (i := 943) (by decide +kernel), by decide +kernel⟩
theorem lRX6_122 : Cond.methodLink RX6 122 mX6_firsts.1 ∈ tb := List.mem_filter.mpr ⟨List.mem_of_getElem? (i := 963) (by decide +kernel), by decide +kernel⟩
theorem lRX6_125 : MLk RX6 125 mX6_nearer := Or.inl (List.mem_filter.mpr ⟨List.mem_of_getElem? (i := 983) (by decide +kernel), by decide +kernel⟩)
theorem lRX6_128 : Cond.methodLink RX6 128 mX6_leanBy.1 ∈ tb := List.mem_filter.mpr ⟨List.mem_of_getElem? (i := 979) (by decide +kernel), by decide +kernel⟩
theorem lRX6_131 : Cond.methodLink RX6 131 mX6_leanNow.1 ∈ tb := List.mem_filter.mpr ⟨List.mem_of_getElem? (i := 975) (by decide +kernel), by decide +kernel⟩
theorem lRX6_136 : MLk RX6 136 mX6_isAsked := Or.inl (List.mem_filter.mpr ⟨List.mem_of_getElem? (i := 990) (by decide +kernel), by decide +kernel⟩)
theorem lRX6_139 : Cond.methodLink RX6 139 mX6_answerTo.1 ∈ tb := List.mem_filter.mpr ⟨List.mem_of_getElem? (i := 994) (by decide +kernel), by decide +kernel⟩
theorem lRX6_142 : Cond.methodLink RX6 142 mX6_year.1 ∈ tb := List.mem_filter.mpr ⟨List.mem_of_getElem? (i := 1009) (by decide +kernel), by decide +kernel⟩
theorem lRX6_149 : Cond.methodLink RX6 149 mX6_years.1 ∈ tb := List.mem_filter.mpr ⟨List.mem_of_getElem? (i := 1005) (by decide +kernel), by decide +kernel⟩
theorem lRX6_153 : Cond.methodLink RX6 153 mX6_sumOf.1 ∈ tb := List.mem_filter.mpr ⟨List.mem_of_getElem? (i := 1017) (by decide +kernel), by decide +kernel⟩
theorem lRX6_156 : Cond.methodLink RX6 156 mX6_hadEver.1 ∈ tb := List.mem_filter.mpr ⟨List.mem_of_getElem? (i := 1021) (by decide +kernel), by decide +kernel⟩
theorem lRX6_159 : MLk RX6 159 mX6_isLong := Or.inl (List.mem_filter.mpr ⟨List.mem_of_getElem? (i := 1029) (by decide +kernel), by decide +kernel⟩)
theorem lRX6_162 : MLk RX6 162 mX6_copyRow := Or.inl (List.mem_filter.mpr ⟨List.mem_of_getElem? (i := 1032) (by decide +kernel), by decide +kernel⟩)
theorem lRX6_168 : MLk RX6 168 mX6_many := Or.inl (List.mem_filter.mpr ⟨List.mem_of_getElem? (i := 1053) (by decide +kernel), by decide +kernel⟩)
theorem lRX6_171 : Cond.methodLink RX6 171 mX6_isLast.1 ∈ tb := List.mem_filter.mpr ⟨List.mem_of_getElem? (i := 1064) (by decide +kernel), by decide +kernel⟩
theorem lRX6_174 : Cond.methodLink RX6 174 mX6_orNone.1 ∈ tb := List.mem_filter.mpr ⟨List.mem_of_getElem? (i := 1072) (by decide +kernel), by decide +kernel⟩
theorem lRX6_179 : MLk RX6 179 mX6_isCut := Or.inl (List.mem_filter.mpr ⟨List.mem_of_getElem? (i := 1104) (by decide +kernel), by decide +kernel⟩)
theorem lRX6_182 : Cond.methodLink RX6 182 mX6_findsCuts.1 ∈ tb := List.mem_filter.mpr ⟨List.mem_of_getElem? (i := 1108) (by decide +kernel), by decide +kernel⟩
theorem lRX6_189 : Cond.methodLink RX6 189 mX6_isTold.1 ∈ tb := List.mem_filter.mpr ⟨List.mem_of_getElem? (i := 1136) (by decide +kernel), by decide +kernel⟩
theorem lRX6_195 : Cond.methodLink RX6 195 mX6_wants.1 ∈ tb := List.mem_filter.mpr ⟨List.mem_of_getElem? (i := 1124) (by decide +kernel), by decide +kernel⟩
theorem lRX6_198 : Cond.methodLink RX6 198 mX6_wantsFor.1 ∈ tb := List.mem_filter.mpr ⟨List.mem_of_getElem? (i := 1120) (by decide +kernel), by decide +kernel⟩
theorem lRX6_201 : Cond.methodLink RX6 201 mX6_findsFits.1 ∈ tb := List.mem_filter.mpr ⟨List.mem_of_getElem? (i := 1132) (by decide +kernel), by decide +kernel⟩
theorem lRX6_205 : Cond.methodLink RX6 205 mX6_draw.1 ∈ tb := List.mem_filter.mpr ⟨List.mem_of_getElem? (i := 1148) (by decide +kernel), by decide +kernel⟩
theorem lRX6_223 : Cond.methodLink RX6 223 mX6_byteAt.1 ∈ tb := List.mem_filter.mpr ⟨List.mem_of_getElem? (i := 1180) (by decide +kernel), by decide +kernel⟩
theorem lRX6_226 : MLk RX6 226 mX6_isLetter := Or.inl (List.mem_filter.mpr ⟨List.mem_of_getElem? (i := 1184) (by decide +kernel), by decide +kernel⟩)
theorem lRX6_229 : MLk RX6 229 mX6_isDigit := Or.inl (List.mem_filter.mpr ⟨List.mem_of_getElem? (i := 1187) (by decide +kernel), by decide +kernel⟩)
theorem lRX6_241 : Cond.methodLink RX6 241 mX6_isWord.1 ∈ tb := List.mem_filter.mpr ⟨List.mem_of_getElem? (i := 1202) (by decide +kernel), by decide +kernel⟩
theorem lRX6_244 : Cond.methodLink RX6 244 mX6_has3.1 ∈ tb := List.mem_filter.mpr ⟨List.mem_of_getElem? (i := 1206) (by decide +kernel), by decide +kernel⟩
theorem lRX6_248 : Cond.methodLink RX6 248 mX6_fails.1 ∈ tb := List.mem_filter.mpr ⟨List.mem_of_getElem? (i := 1218) (by decide +kernel), by decide +kernel⟩
theorem lRX6_252 : Cond.methodLink RX6 252 mX6_isFour.1 ∈ tb := List.mem_filter.mpr ⟨List.mem_of_getElem? (i := 1198) (by decide +kernel), by decide +kernel⟩
theorem lRX6_255 : Cond.methodLink RX6 255 mX6_isFive.1 ∈ tb := List.mem_filter.mpr ⟨List.mem_of_getElem? (i := 1210) (by decide +kernel), by decide +kernel⟩
theorem lRX6_259 : Cond.methodLink RX6 259 mX6_nextToken.1 ∈ tb := List.mem_filter.mpr ⟨List.mem_of_getElem? (i := 1176) (by decide +kernel), by decide +kernel⟩
theorem lRX6_262 : Cond.methodLink RX6 262 mX6_isNumber.1 ∈ tb := List.mem_filter.mpr ⟨List.mem_of_getElem? (i := 1222) (by decide +kernel), by decide +kernel⟩
theorem lRX6_265 : Cond.methodLink RX6 265 mX6_isSix.1 ∈ tb := List.mem_filter.mpr ⟨List.mem_of_getElem? (i := 1234) (by decide +kernel), by decide +kernel⟩
theorem lRX6_269 : Cond.methodLink RX6 269 mX6_handsHere.1 ∈ tb := List.mem_filter.mpr ⟨List.mem_of_getElem? (i := 1226) (by decide +kernel), by decide +kernel⟩
theorem lRX6_272 : Cond.methodLink RX6 272 mX6_thinksHere.1 ∈ tb := List.mem_filter.mpr ⟨List.mem_of_getElem? (i := 1230) (by decide +kernel), by decide +kernel⟩
theorem lRX6_275 : Cond.methodLink RX6 275 mX6_kindHere.1 ∈ tb := List.mem_filter.mpr ⟨List.mem_of_getElem? (i := 1194) (by decide +kernel), by decide +kernel⟩
theorem lRX6_278 : Cond.methodLink RX6 278 mX6_farmHere.1 ∈ tb := List.mem_filter.mpr ⟨List.mem_of_getElem? (i := 1214) (by decide +kernel), by decide +kernel⟩
theorem lRX6_281 : Cond.methodLink RX6 281 mX6_weatherHere.1 ∈ tb := List.mem_filter.mpr ⟨List.mem_of_getElem? (i := 1238) (by decide +kernel), by decide +kernel⟩
theorem lRX6_284 : Cond.methodLink RX6 284 mX6_itemHere.1 ∈ tb := List.mem_filter.mpr ⟨List.mem_of_getElem? (i := 1190) (by decide +kernel), by decide +kernel⟩
theorem lRX6_288 : MLk RX6 288 mX6_isUnder := Or.inl (List.mem_filter.mpr ⟨List.mem_of_getElem? (i := 1250) (by decide +kernel), by decide +kernel⟩)
theorem lRX6_292 : MLk RX6 292 mX6_isSheet := Or.inl (List.mem_filter.mpr ⟨List.mem_of_getElem? (i := 1128) (by decide +kernel), by decide +kernel⟩)
theorem lRJ0_335 : Cond.methodLink RJ0 335 mJ0_coder_7d493.1 ∈ tb := List.mem_filter.mpr ⟨List.mem_of_getElem? (i := 639) (by decide +kernel), by decide +kernel⟩
theorem lRJ0_492 : Cond.methodLink RJ0 492 mJ0_isLatin1_aae02.1 ∈ tb := List.mem_filter.mpr ⟨List.mem_of_getElem? (i := 649) (by decide +kernel), by decide +kernel⟩
theorem lRJ0_495 : MLk RJ0 495 mJ1_charAt_3b067 := Or.inl (List.mem_filter.mpr ⟨List.mem_of_getElem? (i := 653) (by decide +kernel), by decide +kernel⟩)
theorem lRJ0_498 : MLk RJ0 498 mJ2_charAt_3b067 := Or.inl (List.mem_filter.mpr ⟨List.mem_of_getElem? (i := 664) (by decide +kernel), by decide +kernel⟩)
theorem lRJ0_1059 : MLk RJ0 1059 mJ3_checkIndex_8e157 := Or.inl (List.mem_filter.mpr ⟨List.mem_of_getElem? (i := 661) (by decide +kernel), by decide +kernel⟩)
theorem lRJ1_9 : MLk RJ1 9 mJ0_checkIndex_df160 := Or.inl (List.mem_filter.mpr ⟨List.mem_of_getElem? (i := 656) (by decide +kernel), by decide +kernel⟩)
theorem lRJ2_48 : MLk RJ2 48 mJ2_length_9d52b := Or.inl (List.mem_filter.mpr ⟨List.mem_of_getElem? (i := 670) (by decide +kernel), by decide +kernel⟩)
theorem lRJ2_67 : MLk RJ2 67 mJ2_checkIndex_2214a := Or.inl (List.mem_filter.mpr ⟨List.mem_of_getElem? (i := 667) (by decide +kernel), by decide +kernel⟩)
theorem lRJ2_71 : MLk RJ2 71 mJ2_getChar_3b067 := Or.inl (List.mem_filter.mpr ⟨List.mem_of_getElem? (i := 674) (by decide +kernel), by decide +kernel⟩)
theorem lRJ2_414 : MLk RJ2 414 mJ0_checkIndex_df160 := Or.inl (List.mem_filter.mpr ⟨List.mem_of_getElem? (i := 673) (by decide +kernel), by decide +kernel⟩)
theorem lRX0_21 : MLk RX0 21 mX5_within := Or.inr (List.mem_filter.mpr ⟨List.mem_of_getElem? (i := 254) (by decide +kernel), by decide +kernel⟩)
theorem lRX1_45 : MLk RX1 45 mX5_within := Or.inr (List.mem_filter.mpr ⟨List.mem_of_getElem? (i := 279) (by decide +kernel), by decide +kernel⟩)
theorem lRX1_67 : MLk RX1 67 mX5_isIn := Or.inr (List.mem_filter.mpr ⟨List.mem_of_getElem? (i := 368) (by decide +kernel), by decide +kernel⟩)
theorem lRX3_51 : MLk RX3 51 mX5_within := Or.inr (List.mem_filter.mpr ⟨List.mem_of_getElem? (i := 695) (by decide +kernel), by decide +kernel⟩)
