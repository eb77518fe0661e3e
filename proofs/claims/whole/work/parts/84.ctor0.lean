/-! constructors: words -/
theorem wI_0 : Cond.instantiable RX0 7 ∈ tb := List.mem_filter.mpr ⟨List.mem_of_getElem? (i := 87) (by decide +kernel), by decide +kernel⟩
theorem wI_1 : Cond.instantiable RX1 6 ∈ tb := List.mem_filter.mpr ⟨List.mem_of_getElem? (i := 80) (by decide +kernel), by decide +kernel⟩
theorem wI_2 : Cond.instantiable RX2 3 ∈ tb := List.mem_filter.mpr ⟨List.mem_of_getElem? (i := 192) (by decide +kernel), by decide +kernel⟩
theorem wI_3 : Cond.instantiable RX3 6 ∈ tb := List.mem_filter.mpr ⟨List.mem_of_getElem? (i := 148) (by decide +kernel), by decide +kernel⟩
theorem wI_4 : Cond.instantiable RX4 2 ∈ tb := List.mem_filter.mpr ⟨List.mem_of_getElem? (i := 178) (by decide +kernel), by decide +kernel⟩
theorem wI_5 : Cond.instantiable RX5 8 ∈ tb := List.mem_filter.mpr ⟨List.mem_of_getElem? (i := 72) (by decide +kernel), by decide +kernel⟩
theorem wI_6 : Cond.instantiable RX6 20 ∈ tb := List.mem_filter.mpr ⟨List.mem_of_getElem? (i := 794) (by decide +kernel), by decide +kernel⟩
theorem wC_RL_7 : Cond.classLink RL 7 RX5 ∈ tb := List.mem_filter.mpr ⟨List.mem_of_getElem? (i := 71) (by decide +kernel), by decide +kernel⟩
theorem wC_RX5_7 : Cond.classLink RX5 7 RX1 ∈ tb := List.mem_filter.mpr ⟨List.mem_of_getElem? (i := 79) (by decide +kernel), by decide +kernel⟩
theorem wC_RX1_15 : Cond.classLink RX1 15 RX0 ∈ tb := List.mem_filter.mpr ⟨List.mem_of_getElem? (i := 85) (by decide +kernel), by decide +kernel⟩
theorem wC_RX5_22 : Cond.classLink RX5 22 RX3 ∈ tb := List.mem_filter.mpr ⟨List.mem_of_getElem? (i := 147) (by decide +kernel), by decide +kernel⟩
theorem wC_RX5_29 : Cond.classLink RX5 29 RX4 ∈ tb := List.mem_filter.mpr ⟨List.mem_of_getElem? (i := 177) (by decide +kernel), by decide +kernel⟩
theorem wC_RX5_38 : Cond.classLink RX5 38 RX2 ∈ tb := List.mem_filter.mpr ⟨List.mem_of_getElem? (i := 190) (by decide +kernel), by decide +kernel⟩
theorem wC_RL_10 : Cond.classLink RL 10 RX6 ∈ tb := List.mem_filter.mpr ⟨List.mem_of_getElem? (i := 793) (by decide +kernel), by decide +kernel⟩
theorem wA_int : Cond.arrayClass .int ∈ tb := List.mem_filter.mpr ⟨List.mem_of_getElem? (i := 119) (by decide +kernel), by decide +kernel⟩
theorem wA_byte : Cond.arrayClass .byte ∈ tb := List.mem_filter.mpr ⟨List.mem_of_getElem? (i := 176) (by decide +kernel), by decide +kernel⟩
theorem wOb_i : Cond.instanceMethod Lib.objectInit ∈ tb := List.mem_filter.mpr ⟨List.mem_of_getElem? (i := 77) (by decide +kernel), by decide +kernel⟩
theorem wOb_c : Cond.code Lib.objectInit ⟨#[0xb1]⟩ 1 none ∈ tb := List.mem_filter.mpr ⟨List.mem_of_getElem? (i := 78) (by decide +kernel), by decide +kernel⟩
def mX0_init : MT := (yX0_init, cX0_init, 1, none, 1)
theorem okX0_init : MOK mX0_init 0 := ⟨List.mem_filter.mpr ⟨List.mem_of_getElem? (i := 90) (by decide +kernel), by decide +kernel⟩, in_RX0, by decide +kernel⟩
theorem viX0_init : Cond.instanceMethod mX0_init.1 ∈ tb := List.mem_filter.mpr ⟨List.mem_of_getElem? (i := 89) (by decide +kernel), by decide +kernel⟩
def mX1_init : MT := (yX1_init, cX1_init, 2, none, 2)
theorem okX1_init : MOK mX1_init 0 := ⟨List.mem_filter.mpr ⟨List.mem_of_getElem? (i := 83) (by decide +kernel), by decide +kernel⟩, in_RX1, by decide +kernel⟩
theorem viX1_init : Cond.instanceMethod mX1_init.1 ∈ tb := List.mem_filter.mpr ⟨List.mem_of_getElem? (i := 82) (by decide +kernel), by decide +kernel⟩
def mX2_init : MT := (yX2_init, cX2_init, 1, none, 1)
theorem okX2_init : MOK mX2_init 0 := ⟨List.mem_filter.mpr ⟨List.mem_of_getElem? (i := 195) (by decide +kernel), by decide +kernel⟩, in_RX2, by decide +kernel⟩
theorem viX2_init : Cond.instanceMethod mX2_init.1 ∈ tb := List.mem_filter.mpr ⟨List.mem_of_getElem? (i := 194) (by decide +kernel), by decide +kernel⟩
def mX3_init : MT := (yX3_init, cX3_init, 1, none, 1)
theorem okX3_init : MOK mX3_init 0 := ⟨List.mem_filter.mpr ⟨List.mem_of_getElem? (i := 151) (by decide +kernel), by decide +kernel⟩, in_RX3, by decide +kernel⟩
theorem viX3_init : Cond.instanceMethod mX3_init.1 ∈ tb := List.mem_filter.mpr ⟨List.mem_of_getElem? (i := 150) (by decide +kernel), by decide +kernel⟩
def mX4_init : MT := (yX4_init, cX4_init, 3, none, 1)
theorem okX4_init : MOK mX4_init 2 := ⟨List.mem_filter.mpr ⟨List.mem_of_getElem? (i := 181) (by decide +kernel), by decide +kernel⟩, in_RX4, by decide +kernel⟩
theorem viX4_init : Cond.instanceMethod mX4_init.1 ∈ tb := List.mem_filter.mpr ⟨List.mem_of_getElem? (i := 180) (by decide +kernel), by decide +kernel⟩
def mX5_init : MT := (yX5_init, cX5_init, 2, none, 3)
theorem okX5_init : MOK mX5_init 0 := ⟨List.mem_filter.mpr ⟨List.mem_of_getElem? (i := 75) (by decide +kernel), by decide +kernel⟩, in_RX5, by decide +kernel⟩
theorem viX5_init : Cond.instanceMethod mX5_init.1 ∈ tb := List.mem_filter.mpr ⟨List.mem_of_getElem? (i := 74) (by decide +kernel), by decide +kernel⟩
def mX6_init : MT := (yX6_init, cX6_init, 2, none, 1)
theorem okX6_init : MOK mX6_init 0 := ⟨List.mem_filter.mpr ⟨List.mem_of_getElem? (i := 797) (by decide +kernel), by decide +kernel⟩, in_RX6, by decide +kernel⟩
theorem viX6_init : Cond.instanceMethod mX6_init.1 ∈ tb := List.mem_filter.mpr ⟨List.mem_of_getElem? (i := 796) (by decide +kernel), by decide +kernel⟩
theorem lO_RX5 : Cond.methodLink RX5 1 Lib.objectInit ∈ tb := List.mem_filter.mpr ⟨List.mem_of_getElem? (i := 76) (by decide +kernel), by decide +kernel⟩
theorem lI_RX5_9 : Cond.methodLink RX5 9 mX1_init.1 ∈ tb := List.mem_filter.mpr ⟨List.mem_of_getElem? (i := 81) (by decide +kernel), by decide +kernel⟩
theorem lI_RX5_24 : Cond.methodLink RX5 24 mX3_init.1 ∈ tb := List.mem_filter.mpr ⟨List.mem_of_getElem? (i := 149) (by decide +kernel), by decide +kernel⟩
theorem lI_RX5_31 : Cond.methodLink RX5 31 mX4_init.1 ∈ tb := List.mem_filter.mpr ⟨List.mem_of_getElem? (i := 179) (by decide +kernel), by decide +kernel⟩
theorem lI_RX5_44 : Cond.methodLink RX5 44 mX2_init.1 ∈ tb := List.mem_filter.mpr ⟨List.mem_of_getElem? (i := 193) (by decide +kernel), by decide +kernel⟩
theorem lO_RX0 : Cond.methodLink RX0 3 Lib.objectInit ∈ tb := List.mem_filter.mpr ⟨List.mem_of_getElem? (i := 91) (by decide +kernel), by decide +kernel⟩
theorem lO_RX1 : Cond.methodLink RX1 3 Lib.objectInit ∈ tb := List.mem_filter.mpr ⟨List.mem_of_getElem? (i := 84) (by decide +kernel), by decide +kernel⟩
theorem lI_RX1_21 : Cond.methodLink RX1 21 mX0_init.1 ∈ tb := List.mem_filter.mpr ⟨List.mem_of_getElem? (i := 88) (by decide +kernel), by decide +kernel⟩
theorem lO_RX2 : Cond.methodLink RX2 3 Lib.objectInit ∈ tb := List.mem_filter.mpr ⟨List.mem_of_getElem? (i := 196) (by decide +kernel), by decide +kernel⟩
theorem lO_RX3 : Cond.methodLink RX3 3 Lib.objectInit ∈ tb := List.mem_filter.mpr ⟨List.mem_of_getElem? (i := 152) (by decide +kernel), by decide +kernel⟩
theorem lO_RX4 : Cond.methodLink RX4 3 Lib.objectInit ∈ tb := List.mem_filter.mpr ⟨List.mem_of_getElem? (i := 182) (by decide +kernel), by decide +kernel⟩
theorem lI_RL_9 : Cond.methodLink RL 9 mX5_init.1 ∈ tb := List.mem_filter.mpr ⟨List.mem_of_getElem? (i := 73) (by decide +kernel), by decide +kernel⟩
theorem lI_RL_12 : Cond.methodLink RL 12 mX6_init.1 ∈ tb := List.mem_filter.mpr ⟨List.mem_of_getElem? (i := 795) (by decide +kernel), by decide +kernel⟩
theorem lO_RX6 : Cond.methodLink RX6 1 Lib.objectInit ∈ tb := List.mem_filter.mpr ⟨List.mem_of_getElem? (i := 798) (by decide +kernel), by decide +kernel⟩
theorem dX0_init_0 : decode mX0_init.2.1 0 = .ok (.aload_n 0, 1) := by decide +kernel
theorem dX0_init_1 : decode mX0_init.2.1 1 = .ok (.invokespecial 3, 3) := by decide +kernel
theorem dX0_init_4 : decode mX0_init.2.1 4 = .ok (.aload_n 0, 1) := by decide +kernel
theorem dX0_init_5 : decode mX0_init.2.1 5 = .ok (.iconst 0, 1) := by decide +kernel
theorem dX0_init_6 : decode mX0_init.2.1 6 = .ok (.putfield 9, 3) := by decide +kernel
theorem dX0_init_9 : decode mX0_init.2.1 9 = .ok (.aload_n 0, 1) := by decide +kernel
theorem dX0_init_10 : decode mX0_init.2.1 10 = .ok (.iconst 4, 1) := by decide +kernel
theorem dX0_init_11 : decode mX0_init.2.1 11 = .ok (.putfield 15, 3) := by decide +kernel
theorem dX0_init_14 : decode mX0_init.2.1 14 = .ok (.aload_n 0, 1) := by decide +kernel
theorem dX0_init_15 : decode mX0_init.2.1 15 = .ok (.iconst (-1), 1) := by decide +kernel
theorem dX0_init_16 : decode mX0_init.2.1 16 = .ok (.putfield 18, 3) := by decide +kernel
theorem dX0_init_19 : decode mX0_init.2.1 19 = .ok (.return_, 1) := by decide +kernel
theorem dX1_init_0 : decode mX1_init.2.1 0 = .ok (.aload_n 0, 1) := by decide +kernel
theorem dX1_init_1 : decode mX1_init.2.1 1 = .ok (.invokespecial 3, 3) := by decide +kernel
theorem dX1_init_4 : decode mX1_init.2.1 4 = .ok (.aload_n 0, 1) := by decide +kernel
theorem dX1_init_5 : decode mX1_init.2.1 5 = .ok (.iconst 3, 1) := by decide +kernel
theorem dX1_init_6 : decode mX1_init.2.1 6 = .ok (.newarray .int, 2) := by decide +kernel
theorem dX1_init_8 : decode mX1_init.2.1 8 = .ok (.putfield 9, 3) := by decide +kernel
theorem dX1_init_11 : decode mX1_init.2.1 11 = .ok (.aload_n 0, 1) := by decide +kernel
theorem dX1_init_12 : decode mX1_init.2.1 12 = .ok (.bipush 8, 2) := by decide +kernel
theorem dX1_init_14 : decode mX1_init.2.1 14 = .ok (.anewarray 15, 3) := by decide +kernel
theorem dX1_init_17 : decode mX1_init.2.1 17 = .ok (.putfield 17, 3) := by decide +kernel
theorem dX1_init_20 : decode mX1_init.2.1 20 = .ok (.iconst 0, 1) := by decide +kernel
theorem dX1_init_21 : decode mX1_init.2.1 21 = .ok (.istore_n 1, 1) := by decide +kernel
theorem dX1_init_22 : decode mX1_init.2.1 22 = .ok (.iload_n 1, 1) := by decide +kernel
theorem dX1_init_23 : decode mX1_init.2.1 23 = .ok (.bipush 8, 2) := by decide +kernel
theorem dX1_init_25 : decode mX1_init.2.1 25 = .ok (.if_icmp .ge 22, 3) := by decide +kernel
theorem dX1_init_28 : decode mX1_init.2.1 28 = .ok (.aload_n 0, 1) := by decide +kernel
theorem dX1_init_29 : decode mX1_init.2.1 29 = .ok (.getfield 17, 3) := by decide +kernel
theorem dX1_init_32 : decode mX1_init.2.1 32 = .ok (.iload_n 1, 1) := by decide +kernel
theorem dX1_init_33 : decode mX1_init.2.1 33 = .ok (.new 15, 3) := by decide +kernel
theorem dX1_init_36 : decode mX1_init.2.1 36 = .ok (.dup, 1) := by decide +kernel
theorem dX1_init_37 : decode mX1_init.2.1 37 = .ok (.invokespecial 21, 3) := by decide +kernel
theorem dX1_init_40 : decode mX1_init.2.1 40 = .ok (.aastore, 1) := by decide +kernel
theorem dX1_init_41 : decode mX1_init.2.1 41 = .ok (.iinc 1 1, 3) := by decide +kernel
theorem dX1_init_44 : decode mX1_init.2.1 44 = .ok (.goto (-22), 3) := by decide +kernel
theorem dX1_init_47 : decode mX1_init.2.1 47 = .ok (.aload_n 0, 1) := by decide +kernel
theorem dX1_init_48 : decode mX1_init.2.1 48 = .ok (.bipush 10, 2) := by decide +kernel
theorem dX1_init_50 : decode mX1_init.2.1 50 = .ok (.newarray .int, 2) := by decide +kernel
theorem dX1_init_52 : decode mX1_init.2.1 52 = .ok (.putfield 22, 3) := by decide +kernel
theorem dX1_init_55 : decode mX1_init.2.1 55 = .ok (.iconst 0, 1) := by decide +kernel
theorem dX1_init_56 : decode mX1_init.2.1 56 = .ok (.istore_n 1, 1) := by decide +kernel
theorem dX1_init_57 : decode mX1_init.2.1 57 = .ok (.iload_n 1, 1) := by decide +kernel
theorem dX1_init_58 : decode mX1_init.2.1 58 = .ok (.bipush 10, 2) := by decide +kernel
theorem dX1_init_60 : decode mX1_init.2.1 60 = .ok (.if_icmp .ge 16, 3) := by decide +kernel
theorem dX1_init_63 : decode mX1_init.2.1 63 = .ok (.aload_n 0, 1) := by decide +kernel
theorem dX1_init_64 : decode mX1_init.2.1 64 = .ok (.getfield 22, 3) := by decide +kernel
theorem dX1_init_67 : decode mX1_init.2.1 67 = .ok (.iload_n 1, 1) := by decide +kernel
theorem dX1_init_68 : decode mX1_init.2.1 68 = .ok (.iconst (-1), 1) := by decide +kernel
theorem dX1_init_69 : decode mX1_init.2.1 69 = .ok (.iastore, 1) := by decide +kernel
theorem dX1_init_70 : decode mX1_init.2.1 70 = .ok (.iinc 1 1, 3) := by decide +kernel
theorem dX1_init_73 : decode mX1_init.2.1 73 = .ok (.goto (-16), 3) := by decide +kernel
theorem dX1_init_76 : decode mX1_init.2.1 76 = .ok (.aload_n 0, 1) := by decide +kernel
theorem dX1_init_77 : decode mX1_init.2.1 77 = .ok (.iconst 1, 1) := by decide +kernel
theorem dX1_init_78 : decode mX1_init.2.1 78 = .ok (.putfield 25, 3) := by decide +kernel
theorem dX1_init_81 : decode mX1_init.2.1 81 = .ok (.return_, 1) := by decide +kernel
theorem dX2_init_0 : decode mX2_init.2.1 0 = .ok (.aload_n 0, 1) := by decide +kernel
theorem dX2_init_1 : decode mX2_init.2.1 1 = .ok (.invokespecial 3, 3) := by decide +kernel
theorem dX2_init_4 : decode mX2_init.2.1 4 = .ok (.aload_n 0, 1) := by decide +kernel
theorem dX2_init_5 : decode mX2_init.2.1 5 = .ok (.bipush 40, 2) := by decide +kernel
theorem dX2_init_7 : decode mX2_init.2.1 7 = .ok (.newarray .int, 2) := by decide +kernel
theorem dX2_init_9 : decode mX2_init.2.1 9 = .ok (.putfield 9, 3) := by decide +kernel
theorem dX2_init_12 : decode mX2_init.2.1 12 = .ok (.aload_n 0, 1) := by decide +kernel
theorem dX2_init_13 : decode mX2_init.2.1 13 = .ok (.iconst 0, 1) := by decide +kernel
theorem dX2_init_14 : decode mX2_init.2.1 14 = .ok (.putfield 15, 3) := by decide +kernel
theorem dX2_init_17 : decode mX2_init.2.1 17 = .ok (.aload_n 0, 1) := by decide +kernel
theorem dX2_init_18 : decode mX2_init.2.1 18 = .ok (.iconst 0, 1) := by decide +kernel
theorem dX2_init_19 : decode mX2_init.2.1 19 = .ok (.putfield 19, 3) := by decide +kernel
theorem dX2_init_22 : decode mX2_init.2.1 22 = .ok (.return_, 1) := by decide +kernel
theorem dX3_init_0 : decode mX3_init.2.1 0 = .ok (.aload_n 0, 1) := by decide +kernel
theorem dX3_init_1 : decode mX3_init.2.1 1 = .ok (.invokespecial 3, 3) := by decide +kernel
theorem dX3_init_4 : decode mX3_init.2.1 4 = .ok (.aload_n 0, 1) := by decide +kernel
theorem dX3_init_5 : decode mX3_init.2.1 5 = .ok (.bipush 120, 2) := by decide +kernel
theorem dX3_init_7 : decode mX3_init.2.1 7 = .ok (.newarray .byte, 2) := by decide +kernel
theorem dX3_init_9 : decode mX3_init.2.1 9 = .ok (.putfield 9, 3) := by decide +kernel
theorem dX3_init_12 : decode mX3_init.2.1 12 = .ok (.aload_n 0, 1) := by decide +kernel
theorem dX3_init_13 : decode mX3_init.2.1 13 = .ok (.iconst 0, 1) := by decide +kernel
theorem dX3_init_14 : decode mX3_init.2.1 14 = .ok (.putfield 15, 3) := by decide +kernel
theorem dX3_init_17 : decode mX3_init.2.1 17 = .ok (.aload_n 0, 1) := by decide +kernel
theorem dX3_init_18 : decode mX3_init.2.1 18 = .ok (.iconst 0, 1) := by decide +kernel
theorem dX3_init_19 : decode mX3_init.2.1 19 = .ok (.putfield 19, 3) := by decide +kernel
theorem dX3_init_22 : decode mX3_init.2.1 22 = .ok (.aload_n 0, 1) := by decide +kernel
theorem dX3_init_23 : decode mX3_init.2.1 23 = .ok (.iconst 0, 1) := by decide +kernel
theorem dX3_init_24 : decode mX3_init.2.1 24 = .ok (.putfield 22, 3) := by decide +kernel
theorem dX3_init_27 : decode mX3_init.2.1 27 = .ok (.aload_n 0, 1) := by decide +kernel
theorem dX3_init_28 : decode mX3_init.2.1 28 = .ok (.iconst 5, 1) := by decide +kernel
theorem dX3_init_29 : decode mX3_init.2.1 29 = .ok (.putfield 25, 3) := by decide +kernel
theorem dX3_init_32 : decode mX3_init.2.1 32 = .ok (.aload_n 0, 1) := by decide +kernel
theorem dX3_init_33 : decode mX3_init.2.1 33 = .ok (.iconst 0, 1) := by decide +kernel
theorem dX3_init_34 : decode mX3_init.2.1 34 = .ok (.putfield 28, 3) := by decide +kernel
theorem dX3_init_37 : decode mX3_init.2.1 37 = .ok (.return_, 1) := by decide +kernel
theorem dX4_init_0 : decode mX4_init.2.1 0 = .ok (.aload_n 0, 1) := by decide +kernel
theorem dX4_init_1 : decode mX4_init.2.1 1 = .ok (.invokespecial 3, 3) := by decide +kernel
theorem dX4_init_4 : decode mX4_init.2.1 4 = .ok (.aload_n 0, 1) := by decide +kernel
theorem dX4_init_5 : decode mX4_init.2.1 5 = .ok (.aload_n 1, 1) := by decide +kernel
theorem dX4_init_6 : decode mX4_init.2.1 6 = .ok (.putfield 9, 3) := by decide +kernel
theorem dX4_init_9 : decode mX4_init.2.1 9 = .ok (.aload_n 0, 1) := by decide +kernel
theorem dX4_init_10 : decode mX4_init.2.1 10 = .ok (.aload_n 2, 1) := by decide +kernel
theorem dX4_init_11 : decode mX4_init.2.1 11 = .ok (.putfield 15, 3) := by decide +kernel
theorem dX4_init_14 : decode mX4_init.2.1 14 = .ok (.return_, 1) := by decide +kernel
theorem dX5_init_0 : decode mX5_init.2.1 0 = .ok (.aload_n 0, 1) := by decide +kernel
theorem dX5_init_1 : decode mX5_init.2.1 1 = .ok (.invokespecial 1, 3) := by decide +kernel
theorem dX5_init_4 : decode mX5_init.2.1 4 = .ok (.aload_n 0, 1) := by decide +kernel
theorem dX5_init_5 : decode mX5_init.2.1 5 = .ok (.new 7, 3) := by decide +kernel
theorem dX5_init_8 : decode mX5_init.2.1 8 = .ok (.dup, 1) := by decide +kernel
theorem dX5_init_9 : decode mX5_init.2.1 9 = .ok (.invokespecial 9, 3) := by decide +kernel
theorem dX5_init_12 : decode mX5_init.2.1 12 = .ok (.putfield 10, 3) := by decide +kernel
theorem dX5_init_15 : decode mX5_init.2.1 15 = .ok (.aload_n 0, 1) := by decide +kernel
theorem dX5_init_16 : decode mX5_init.2.1 16 = .ok (.new 7, 3) := by decide +kernel
theorem dX5_init_19 : decode mX5_init.2.1 19 = .ok (.dup, 1) := by decide +kernel
theorem dX5_init_20 : decode mX5_init.2.1 20 = .ok (.invokespecial 9, 3) := by decide +kernel
theorem dX5_init_23 : decode mX5_init.2.1 23 = .ok (.putfield 16, 3) := by decide +kernel
theorem dX5_init_26 : decode mX5_init.2.1 26 = .ok (.aload_n 0, 1) := by decide +kernel
theorem dX5_init_27 : decode mX5_init.2.1 27 = .ok (.new 7, 3) := by decide +kernel
theorem dX5_init_30 : decode mX5_init.2.1 30 = .ok (.dup, 1) := by decide +kernel
theorem dX5_init_31 : decode mX5_init.2.1 31 = .ok (.invokespecial 9, 3) := by decide +kernel
theorem dX5_init_34 : decode mX5_init.2.1 34 = .ok (.putfield 19, 3) := by decide +kernel
theorem dX5_init_37 : decode mX5_init.2.1 37 = .ok (.aload_n 0, 1) := by decide +kernel
theorem dX5_init_38 : decode mX5_init.2.1 38 = .ok (.new 22, 3) := by decide +kernel
theorem dX5_init_41 : decode mX5_init.2.1 41 = .ok (.dup, 1) := by decide +kernel
theorem dX5_init_42 : decode mX5_init.2.1 42 = .ok (.invokespecial 24, 3) := by decide +kernel
theorem dX5_init_45 : decode mX5_init.2.1 45 = .ok (.putfield 25, 3) := by decide +kernel
theorem dX5_init_48 : decode mX5_init.2.1 48 = .ok (.aload_n 0, 1) := by decide +kernel
theorem dX5_init_49 : decode mX5_init.2.1 49 = .ok (.new 29, 3) := by decide +kernel
theorem dX5_init_52 : decode mX5_init.2.1 52 = .ok (.dup, 1) := by decide +kernel
theorem dX5_init_53 : decode mX5_init.2.1 53 = .ok (.aload_n 0, 1) := by decide +kernel
theorem dX5_init_54 : decode mX5_init.2.1 54 = .ok (.getfield 25, 3) := by decide +kernel
theorem dX5_init_57 : decode mX5_init.2.1 57 = .ok (.aload_n 0, 1) := by decide +kernel
theorem dX5_init_58 : decode mX5_init.2.1 58 = .ok (.getfield 19, 3) := by decide +kernel
theorem dX5_init_61 : decode mX5_init.2.1 61 = .ok (.invokespecial 31, 3) := by decide +kernel
theorem dX5_init_64 : decode mX5_init.2.1 64 = .ok (.putfield 34, 3) := by decide +kernel
theorem dX5_init_67 : decode mX5_init.2.1 67 = .ok (.aload_n 0, 1) := by decide +kernel
theorem dX5_init_68 : decode mX5_init.2.1 68 = .ok (.iconst 4, 1) := by decide +kernel
theorem dX5_init_69 : decode mX5_init.2.1 69 = .ok (.anewarray 38, 3) := by decide +kernel
theorem dX5_init_72 : decode mX5_init.2.1 72 = .ok (.putfield 40, 3) := by decide +kernel
theorem dX5_init_75 : decode mX5_init.2.1 75 = .ok (.iconst 0, 1) := by decide +kernel
theorem dX5_init_76 : decode mX5_init.2.1 76 = .ok (.istore_n 1, 1) := by decide +kernel
theorem dX5_init_77 : decode mX5_init.2.1 77 = .ok (.iload_n 1, 1) := by decide +kernel
theorem dX5_init_78 : decode mX5_init.2.1 78 = .ok (.iconst 4, 1) := by decide +kernel
theorem dX5_init_79 : decode mX5_init.2.1 79 = .ok (.if_icmp .ge 22, 3) := by decide +kernel
theorem dX5_init_82 : decode mX5_init.2.1 82 = .ok (.aload_n 0, 1) := by decide +kernel
theorem dX5_init_83 : decode mX5_init.2.1 83 = .ok (.getfield 40, 3) := by decide +kernel
theorem dX5_init_86 : decode mX5_init.2.1 86 = .ok (.iload_n 1, 1) := by decide +kernel
theorem dX5_init_87 : decode mX5_init.2.1 87 = .ok (.new 38, 3) := by decide +kernel
theorem dX5_init_90 : decode mX5_init.2.1 90 = .ok (.dup, 1) := by decide +kernel
theorem dX5_init_91 : decode mX5_init.2.1 91 = .ok (.invokespecial 44, 3) := by decide +kernel
theorem dX5_init_94 : decode mX5_init.2.1 94 = .ok (.aastore, 1) := by decide +kernel
theorem dX5_init_95 : decode mX5_init.2.1 95 = .ok (.iinc 1 1, 3) := by decide +kernel
theorem dX5_init_98 : decode mX5_init.2.1 98 = .ok (.goto (-21), 3) := by decide +kernel
theorem dX5_init_101 : decode mX5_init.2.1 101 = .ok (.aload_n 0, 1) := by decide +kernel
theorem dX5_init_102 : decode mX5_init.2.1 102 = .ok (.bipush 7, 2) := by decide +kernel
theorem dX5_init_104 : decode mX5_init.2.1 104 = .ok (.newarray .int, 2) := by decide +kernel
theorem dX5_init_106 : decode mX5_init.2.1 106 = .ok (.putfield 45, 3) := by decide +kernel
theorem dX5_init_109 : decode mX5_init.2.1 109 = .ok (.aload_n 0, 1) := by decide +kernel
theorem dX5_init_110 : decode mX5_init.2.1 110 = .ok (.iconst 0, 1) := by decide +kernel
theorem dX5_init_111 : decode mX5_init.2.1 111 = .ok (.putfield 49, 3) := by decide +kernel
theorem dX5_init_114 : decode mX5_init.2.1 114 = .ok (.return_, 1) := by decide +kernel
theorem dX6_init_0 : decode mX6_init.2.1 0 = .ok (.aload_n 0, 1) := by decide +kernel
theorem dX6_init_1 : decode mX6_init.2.1 1 = .ok (.invokespecial 1, 3) := by decide +kernel
theorem dX6_init_4 : decode mX6_init.2.1 4 = .ok (.aload_n 0, 1) := by decide +kernel
theorem dX6_init_5 : decode mX6_init.2.1 5 = .ok (.bipush 56, 2) := by decide +kernel
theorem dX6_init_7 : decode mX6_init.2.1 7 = .ok (.newarray .int, 2) := by decide +kernel
theorem dX6_init_9 : decode mX6_init.2.1 9 = .ok (.putfield 7, 3) := by decide +kernel
theorem dX6_init_12 : decode mX6_init.2.1 12 = .ok (.aload_n 0, 1) := by decide +kernel
theorem dX6_init_13 : decode mX6_init.2.1 13 = .ok (.bipush 56, 2) := by decide +kernel
theorem dX6_init_15 : decode mX6_init.2.1 15 = .ok (.newarray .int, 2) := by decide +kernel
theorem dX6_init_17 : decode mX6_init.2.1 17 = .ok (.putfield 13, 3) := by decide +kernel
theorem dX6_init_20 : decode mX6_init.2.1 20 = .ok (.aload_n 0, 1) := by decide +kernel
theorem dX6_init_21 : decode mX6_init.2.1 21 = .ok (.bipush 56, 2) := by decide +kernel
theorem dX6_init_23 : decode mX6_init.2.1 23 = .ok (.newarray .int, 2) := by decide +kernel
theorem dX6_init_25 : decode mX6_init.2.1 25 = .ok (.putfield 16, 3) := by decide +kernel
theorem dX6_init_28 : decode mX6_init.2.1 28 = .ok (.aload_n 0, 1) := by decide +kernel
theorem dX6_init_29 : decode mX6_init.2.1 29 = .ok (.bipush 56, 2) := by decide +kernel
theorem dX6_init_31 : decode mX6_init.2.1 31 = .ok (.newarray .int, 2) := by decide +kernel
theorem dX6_init_33 : decode mX6_init.2.1 33 = .ok (.putfield 19, 3) := by decide +kernel
theorem dX6_init_36 : decode mX6_init.2.1 36 = .ok (.aload_n 0, 1) := by decide +kernel
theorem dX6_init_37 : decode mX6_init.2.1 37 = .ok (.bipush 8, 2) := by decide +kernel
theorem dX6_init_39 : decode mX6_init.2.1 39 = .ok (.newarray .int, 2) := by decide +kernel
theorem dX6_init_41 : decode mX6_init.2.1 41 = .ok (.putfield 22, 3) := by decide +kernel
theorem dX6_init_44 : decode mX6_init.2.1 44 = .ok (.aload_n 0, 1) := by decide +kernel
theorem dX6_init_45 : decode mX6_init.2.1 45 = .ok (.bipush 120, 2) := by decide +kernel
theorem dX6_init_47 : decode mX6_init.2.1 47 = .ok (.newarray .int, 2) := by decide +kernel
theorem dX6_init_49 : decode mX6_init.2.1 49 = .ok (.putfield 25, 3) := by decide +kernel
theorem dX6_init_52 : decode mX6_init.2.1 52 = .ok (.aload_n 0, 1) := by decide +kernel
theorem dX6_init_53 : decode mX6_init.2.1 53 = .ok (.iconst 4, 1) := by decide +kernel
theorem dX6_init_54 : decode mX6_init.2.1 54 = .ok (.newarray .int, 2) := by decide +kernel
theorem dX6_init_56 : decode mX6_init.2.1 56 = .ok (.dup, 1) := by decide +kernel
theorem dX6_init_57 : decode mX6_init.2.1 57 = .ok (.iconst 0, 1) := by decide +kernel
theorem dX6_init_58 : decode mX6_init.2.1 58 = .ok (.iconst (-1), 1) := by decide +kernel
theorem dX6_init_59 : decode mX6_init.2.1 59 = .ok (.iastore, 1) := by decide +kernel
theorem dX6_init_60 : decode mX6_init.2.1 60 = .ok (.dup, 1) := by decide +kernel
theorem dX6_init_61 : decode mX6_init.2.1 61 = .ok (.iconst 1, 1) := by decide +kernel
theorem dX6_init_62 : decode mX6_init.2.1 62 = .ok (.iconst (-1), 1) := by decide +kernel
theorem dX6_init_63 : decode mX6_init.2.1 63 = .ok (.iastore, 1) := by decide +kernel
theorem dX6_init_64 : decode mX6_init.2.1 64 = .ok (.dup, 1) := by decide +kernel
theorem dX6_init_65 : decode mX6_init.2.1 65 = .ok (.iconst 2, 1) := by decide +kernel
theorem dX6_init_66 : decode mX6_init.2.1 66 = .ok (.iconst (-1), 1) := by decide +kernel
theorem dX6_init_67 : decode mX6_init.2.1 67 = .ok (.iastore, 1) := by decide +kernel
theorem dX6_init_68 : decode mX6_init.2.1 68 = .ok (.dup, 1) := by decide +kernel
theorem dX6_init_69 : decode mX6_init.2.1 69 = .ok (.iconst 3, 1) := by decide +kernel
theorem dX6_init_70 : decode mX6_init.2.1 70 = .ok (.iconst (-1), 1) := by decide +kernel
theorem dX6_init_71 : decode mX6_init.2.1 71 = .ok (.iastore, 1) := by decide +kernel
theorem dX6_init_72 : decode mX6_init.2.1 72 = .ok (.putfield 28, 3) := by decide +kernel
theorem dX6_init_75 : decode mX6_init.2.1 75 = .ok (.aload_n 0, 1) := by decide +kernel
theorem dX6_init_76 : decode mX6_init.2.1 76 = .ok (.iconst 4, 1) := by decide +kernel
theorem dX6_init_77 : decode mX6_init.2.1 77 = .ok (.newarray .int, 2) := by decide +kernel
theorem dX6_init_79 : decode mX6_init.2.1 79 = .ok (.putfield 31, 3) := by decide +kernel
theorem dX6_init_82 : decode mX6_init.2.1 82 = .ok (.aload_n 0, 1) := by decide +kernel
theorem dX6_init_83 : decode mX6_init.2.1 83 = .ok (.sipush 160, 3) := by decide +kernel
theorem dX6_init_86 : decode mX6_init.2.1 86 = .ok (.newarray .int, 2) := by decide +kernel
theorem dX6_init_88 : decode mX6_init.2.1 88 = .ok (.putfield 34, 3) := by decide +kernel
theorem dX6_init_91 : decode mX6_init.2.1 91 = .ok (.aload_n 0, 1) := by decide +kernel
theorem dX6_init_92 : decode mX6_init.2.1 92 = .ok (.bipush 8, 2) := by decide +kernel
theorem dX6_init_94 : decode mX6_init.2.1 94 = .ok (.newarray .int, 2) := by decide +kernel
theorem dX6_init_96 : decode mX6_init.2.1 96 = .ok (.putfield 37, 3) := by decide +kernel
theorem dX6_init_99 : decode mX6_init.2.1 99 = .ok (.aload_n 0, 1) := by decide +kernel
theorem dX6_init_100 : decode mX6_init.2.1 100 = .ok (.sipush 201, 3) := by decide +kernel
theorem dX6_init_103 : decode mX6_init.2.1 103 = .ok (.newarray .int, 2) := by decide +kernel
theorem dX6_init_105 : decode mX6_init.2.1 105 = .ok (.putfield 40, 3) := by decide +kernel
theorem dX6_init_108 : decode mX6_init.2.1 108 = .ok (.aload_n 0, 1) := by decide +kernel
theorem dX6_init_109 : decode mX6_init.2.1 109 = .ok (.getfield 7, 3) := by decide +kernel
theorem dX6_init_112 : decode mX6_init.2.1 112 = .ok (.iconst 2, 1) := by decide +kernel
theorem dX6_init_113 : decode mX6_init.2.1 113 = .ok (.iconst 1, 1) := by decide +kernel
theorem dX6_init_114 : decode mX6_init.2.1 114 = .ok (.iastore, 1) := by decide +kernel
theorem dX6_init_115 : decode mX6_init.2.1 115 = .ok (.iconst 0, 1) := by decide +kernel
theorem dX6_init_116 : decode mX6_init.2.1 116 = .ok (.istore_n 1, 1) := by decide +kernel
theorem dX6_init_117 : decode mX6_init.2.1 117 = .ok (.iload_n 1, 1) := by decide +kernel
theorem dX6_init_118 : decode mX6_init.2.1 118 = .ok (.bipush 10, 2) := by decide +kernel
theorem dX6_init_120 : decode mX6_init.2.1 120 = .ok (.if_icmp .ge 19, 3) := by decide +kernel
theorem dX6_init_123 : decode mX6_init.2.1 123 = .ok (.aload_n 0, 1) := by decide +kernel
theorem dX6_init_124 : decode mX6_init.2.1 124 = .ok (.getfield 7, 3) := by decide +kernel
theorem dX6_init_127 : decode mX6_init.2.1 127 = .ok (.bipush 46, 2) := by decide +kernel
theorem dX6_init_129 : decode mX6_init.2.1 129 = .ok (.iload_n 1, 1) := by decide +kernel
theorem dX6_init_130 : decode mX6_init.2.1 130 = .ok (.iadd, 1) := by decide +kernel
theorem dX6_init_131 : decode mX6_init.2.1 131 = .ok (.iconst (-1), 1) := by decide +kernel
theorem dX6_init_132 : decode mX6_init.2.1 132 = .ok (.iastore, 1) := by decide +kernel
theorem dX6_init_133 : decode mX6_init.2.1 133 = .ok (.iinc 1 1, 3) := by decide +kernel
theorem dX6_init_136 : decode mX6_init.2.1 136 = .ok (.goto (-19), 3) := by decide +kernel
theorem dX6_init_139 : decode mX6_init.2.1 139 = .ok (.return_, 1) := by decide +kernel
theorem gf_RX0_9 : Cond.fieldLink RX0 9 ((clC 0).2.1 0).1 ((clC 0).2.1 0).2.1 ((clC 0).2.1 0).2.2.1 ∈ tb := List.mem_filter.mpr ⟨List.mem_of_getElem? (i := 92) (by decide +kernel), by decide +kernel⟩
theorem gf_RX0_15 : Cond.fieldLink RX0 15 ((clC 0).2.1 2).1 ((clC 0).2.1 2).2.1 ((clC 0).2.1 2).2.2.1 ∈ tb := List.mem_filter.mpr ⟨List.mem_of_getElem? (i := 95) (by decide +kernel), by decide +kernel⟩
theorem gf_RX0_18 : Cond.fieldLink RX0 18 ((clC 0).2.1 5).1 ((clC 0).2.1 5).2.1 ((clC 0).2.1 5).2.2.1 ∈ tb := List.mem_filter.mpr ⟨List.mem_of_getElem? (i := 102) (by decide +kernel), by decide +kernel⟩
theorem gf_RX1_9 : Cond.fieldLink RX1 9 ((clC 1).2.1 0).1 ((clC 1).2.1 0).2.1 ((clC 1).2.1 0).2.2.1 ∈ tb := List.mem_filter.mpr ⟨List.mem_of_getElem? (i := 120) (by decide +kernel), by decide +kernel⟩
theorem gf_RX1_17 : Cond.fieldLink RX1 17 ((clC 1).2.1 1).1 ((clC 1).2.1 1).2.1 ((clC 1).2.1 1).2.2.1 ∈ tb := List.mem_filter.mpr ⟨List.mem_of_getElem? (i := 123) (by decide +kernel), by decide +kernel⟩
theorem gf_RX1_22 : Cond.fieldLink RX1 22 ((clC 1).2.1 2).1 ((clC 1).2.1 2).2.1 ((clC 1).2.1 2).2.2.1 ∈ tb := List.mem_filter.mpr ⟨List.mem_of_getElem? (i := 126) (by decide +kernel), by decide +kernel⟩
theorem gf_RX1_25 : Cond.fieldLink RX1 25 ((clC 1).2.1 5).1 ((clC 1).2.1 5).2.1 ((clC 1).2.1 5).2.2.1 ∈ tb := List.mem_filter.mpr ⟨List.mem_of_getElem? (i := 132) (by decide +kernel), by decide +kernel⟩
theorem gf_RX2_9 : Cond.fieldLink RX2 9 ((clC 2).2.1 0).1 ((clC 2).2.1 0).2.1 ((clC 2).2.1 0).2.2.1 ∈ tb := List.mem_filter.mpr ⟨List.mem_of_getElem? (i := 197) (by decide +kernel), by decide +kernel⟩
theorem gf_RX2_15 : Cond.fieldLink RX2 15 ((clC 2).2.1 1).1 ((clC 2).2.1 1).2.1 ((clC 2).2.1 1).2.2.1 ∈ tb := List.mem_filter.mpr ⟨List.mem_of_getElem? (i := 199) (by decide +kernel), by decide +kernel⟩
theorem gf_RX2_19 : Cond.fieldLink RX2 19 ((clC 2).2.1 2).1 ((clC 2).2.1 2).2.1 ((clC 2).2.1 2).2.2.1 ∈ tb := List.mem_filter.mpr ⟨List.mem_of_getElem? (i := 201) (by decide +kernel), by decide +kernel⟩
theorem gf_RX3_9 : Cond.fieldLink RX3 9 ((clC 3).2.1 0).1 ((clC 3).2.1 0).2.1 ((clC 3).2.1 0).2.2.1 ∈ tb := List.mem_filter.mpr ⟨List.mem_of_getElem? (i := 153) (by decide +kernel), by decide +kernel⟩
theorem gf_RX3_15 : Cond.fieldLink RX3 15 ((clC 3).2.1 1).1 ((clC 3).2.1 1).2.1 ((clC 3).2.1 1).2.2.1 ∈ tb := List.mem_filter.mpr ⟨List.mem_of_getElem? (i := 154) (by decide +kernel), by decide +kernel⟩
theorem gf_RX3_19 : Cond.fieldLink RX3 19 ((clC 3).2.1 2).1 ((clC 3).2.1 2).2.1 ((clC 3).2.1 2).2.2.1 ∈ tb := List.mem_filter.mpr ⟨List.mem_of_getElem? (i := 156) (by decide +kernel), by decide +kernel⟩
theorem gf_RX3_22 : Cond.fieldLink RX3 22 ((clC 3).2.1 3).1 ((clC 3).2.1 3).2.1 ((clC 3).2.1 3).2.2.1 ∈ tb := List.mem_filter.mpr ⟨List.mem_of_getElem? (i := 158) (by decide +kernel), by decide +kernel⟩
theorem gf_RX3_25 : Cond.fieldLink RX3 25 ((clC 3).2.1 4).1 ((clC 3).2.1 4).2.1 ((clC 3).2.1 4).2.2.1 ∈ tb := List.mem_filter.mpr ⟨List.mem_of_getElem? (i := 159) (by decide +kernel), by decide +kernel⟩
theorem gf_RX3_28 : Cond.fieldLink RX3 28 ((clC 3).2.1 5).1 ((clC 3).2.1 5).2.1 ((clC 3).2.1 5).2.2.1 ∈ tb := List.mem_filter.mpr ⟨List.mem_of_getElem? (i := 161) (by decide +kernel), by decide +kernel⟩
theorem gf_RX4_9 : Cond.fieldLink RX4 9 ((clC 4).2.1 0).1 ((clC 4).2.1 0).2.1 ((clC 4).2.1 0).2.2.1 ∈ tb := List.mem_filter.mpr ⟨List.mem_of_getElem? (i := 183) (by decide +kernel), by decide +kernel⟩
theorem gf_RX4_15 : Cond.fieldLink RX4 15 ((clC 4).2.1 1).1 ((clC 4).2.1 1).2.1 ((clC 4).2.1 1).2.2.1 ∈ tb := List.mem_filter.mpr ⟨List.mem_of_getElem? (i := 184) (by decide +kernel), by decide +kernel⟩
theorem gf_RX5_10 : Cond.fieldLink RX5 10 ((clC 5).2.1 0).1 ((clC 5).2.1 0).2.1 ((clC 5).2.1 0).2.2.1 ∈ tb := List.mem_filter.mpr ⟨List.mem_of_getElem? (i := 210) (by decide +kernel), by decide +kernel⟩
theorem gf_RX5_16 : Cond.fieldLink RX5 16 ((clC 5).2.1 1).1 ((clC 5).2.1 1).2.1 ((clC 5).2.1 1).2.2.1 ∈ tb := List.mem_filter.mpr ⟨List.mem_of_getElem? (i := 211) (by decide +kernel), by decide +kernel⟩
theorem gf_RX5_19 : Cond.fieldLink RX5 19 ((clC 5).2.1 2).1 ((clC 5).2.1 2).2.1 ((clC 5).2.1 2).2.2.1 ∈ tb := List.mem_filter.mpr ⟨List.mem_of_getElem? (i := 212) (by decide +kernel), by decide +kernel⟩
theorem gf_RX5_25 : Cond.fieldLink RX5 25 ((clC 5).2.1 3).1 ((clC 5).2.1 3).2.1 ((clC 5).2.1 3).2.2.1 ∈ tb := List.mem_filter.mpr ⟨List.mem_of_getElem? (i := 213) (by decide +kernel), by decide +kernel⟩
theorem gf_RX5_34 : Cond.fieldLink RX5 34 ((clC 5).2.1 4).1 ((clC 5).2.1 4).2.1 ((clC 5).2.1 4).2.2.1 ∈ tb := List.mem_filter.mpr ⟨List.mem_of_getElem? (i := 214) (by decide +kernel), by decide +kernel⟩
theorem gf_RX5_40 : Cond.fieldLink RX5 40 ((clC 5).2.1 5).1 ((clC 5).2.1 5).2.1 ((clC 5).2.1 5).2.2.1 ∈ tb := List.mem_filter.mpr ⟨List.mem_of_getElem? (i := 215) (by decide +kernel), by decide +kernel⟩
theorem gf_RX5_45 : Cond.fieldLink RX5 45 ((clC 5).2.1 6).1 ((clC 5).2.1 6).2.1 ((clC 5).2.1 6).2.2.1 ∈ tb := List.mem_filter.mpr ⟨List.mem_of_getElem? (i := 216) (by decide +kernel), by decide +kernel⟩
theorem gf_RX5_49 : Cond.fieldLink RX5 49 ((clC 5).2.1 7).1 ((clC 5).2.1 7).2.1 ((clC 5).2.1 7).2.2.1 ∈ tb := List.mem_filter.mpr ⟨List.mem_of_getElem? (i := 217) (by decide +kernel), by decide +kernel⟩
theorem gf_RX6_7 : Cond.fieldLink RX6 7 ((clC 6).2.1 0).1 ((clC 6).2.1 0).2.1 ((clC 6).2.1 0).2.2.1 ∈ tb := List.mem_filter.mpr ⟨List.mem_of_getElem? (i := 799) (by decide +kernel), by decide +kernel⟩
theorem gf_RX6_13 : Cond.fieldLink RX6 13 ((clC 6).2.1 1).1 ((clC 6).2.1 1).2.1 ((clC 6).2.1 1).2.2.1 ∈ tb := List.mem_filter.mpr ⟨List.mem_of_getElem? (i := 800) (by decide +kernel), by decide +kernel⟩
theorem gf_RX6_16 : Cond.fieldLink RX6 16 ((clC 6).2.1 2).1 ((clC 6).2.1 2).2.1 ((clC 6).2.1 2).2.2.1 ∈ tb := List.mem_filter.mpr ⟨List.mem_of_getElem? (i := 801) (by decide +kernel), by decide +kernel⟩
theorem gf_RX6_19 : Cond.fieldLink RX6 19 ((clC 6).2.1 3).1 ((clC 6).2.1 3).2.1 ((clC 6).2.1 3).2.2.1 ∈ tb := List.mem_filter.mpr ⟨List.mem_of_getElem? (i := 802) (by decide +kernel), by decide +kernel⟩
theorem gf_RX6_22 : Cond.fieldLink RX6 22 ((clC 6).2.1 5).1 ((clC 6).2.1 5).2.1 ((clC 6).2.1 5).2.2.1 ∈ tb := List.mem_filter.mpr ⟨List.mem_of_getElem? (i := 804) (by decide +kernel), by decide +kernel⟩
theorem gf_RX6_25 : Cond.fieldLink RX6 25 ((clC 6).2.1 6).1 ((clC 6).2.1 6).2.1 ((clC 6).2.1 6).2.2.1 ∈ tb := List.mem_filter.mpr ⟨List.mem_of_getElem? (i := 805) (by decide +kernel), by decide +kernel⟩
theorem gf_RX6_28 : Cond.fieldLink RX6 28 ((clC 6).2.1 8).1 ((clC 6).2.1 8).2.1 ((clC 6).2.1 8).2.2.1 ∈ tb := List.mem_filter.mpr ⟨List.mem_of_getElem? (i := 807) (by decide +kernel), by decide +kernel⟩
theorem gf_RX6_31 : Cond.fieldLink RX6 31 ((clC 6).2.1 9).1 ((clC 6).2.1 9).2.1 ((clC 6).2.1 9).2.2.1 ∈ tb := List.mem_filter.mpr ⟨List.mem_of_getElem? (i := 808) (by decide +kernel), by decide +kernel⟩
theorem gf_RX6_34 : Cond.fieldLink RX6 34 ((clC 6).2.1 10).1 ((clC 6).2.1 10).2.1 ((clC 6).2.1 10).2.2.1 ∈ tb := List.mem_filter.mpr ⟨List.mem_of_getElem? (i := 809) (by decide +kernel), by decide +kernel⟩
theorem gf_RX6_37 : Cond.fieldLink RX6 37 ((clC 6).2.1 11).1 ((clC 6).2.1 11).2.1 ((clC 6).2.1 11).2.2.1 ∈ tb := List.mem_filter.mpr ⟨List.mem_of_getElem? (i := 810) (by decide +kernel), by decide +kernel⟩
theorem gf_RX6_40 : Cond.fieldLink RX6 40 ((clC 6).2.1 12).1 ((clC 6).2.1 12).2.1 ((clC 6).2.1 12).2.2.1 ∈ tb := List.mem_filter.mpr ⟨List.mem_of_getElem? (i := 811) (by decide +kernel), by decide +kernel⟩
def rmK (M : MT) (mc ms : Nat) : Room := { frames := M.2.2.2.2, cells := mc, slots := ms, locals := 40 * M.2.2.2.2 }
/-- the classes of the four sorts of row -/
def tyL (cA : Nat → ClassId) : List (ClassId × FieldType) := [(cA 0, .int), (cA 1, .byte), (cA 2, .object "SheafVotes$Farm"), (cA 3, .object "SheafVotes$Sheet")]
/-- a constructor's contract: from its object alone to what it makes -/
def CtI (M : MT) (mc ms : Nat) (S : Type) (as : List Value) (W0 : va_W) (W1 : (Nat → ClassId) → S → va_W) : Prop := ∀ (l : Launch) (D : va_G) (cA : Nat → ClassId) (sz : Nat), Met l M.1 (wsM M) (rmK M mc ms) (va_Pc as (fun U => U.heap.size = sz ∧ va_P D vwCl W0 U.heap ∧ va_K D vwCl (tyL cA) U ∧ va_D (fun _ => True) W0 ∧ va_AO RX0 U ∧ va_AO RX2 U)) (va_Qv (fun _ : S => True) (fun u t => va_P D vwCl (W1 cA u) t.heap ∧ va_D (va_A W0 sz) (W1 cA u)) (va_A W0 sz)) mc ms (va_A W0 sz)
section CTC
variable {p : Program} {l : Launch} {e : Env} {R : Room} {s : State} {m : MethodId} {args : Array Value} {below : List Frame} {meth : Method} {c : Code} {H : Heap} {locs : List Loc} {cells slots : Nat} {Q : State → Prop} {D : va_G} {A : Nat → Prop} {cA : Nat → ClassId}
theorem ct_call {M M' : MT} {S : Type} {mc ms n b pc idx : Nat} {As rest st0 : List Value} {e0 : va_E} {W1 : (Nat → ClassId) → S → va_W} {ws wr : va_W} {la : Array Slot} (hx : p.tables.exec = Jvm.exec) (hb : c.code = M.2.1) (hml : c.maxLocals = M.2.2.1) (hown : s.vm.findClass M.1.cls = some m.cls) (htb : ∀ w ∈ tb, w.before args s = true) (hC : CtI M' mc ms S (.ref b :: As) [(b, e0)] W1) (hM : MOK M' n) (hN : M'.1.name = "<init>") (hret : M'.2.2.2.1 = none) (hI : Cond.instanceMethod M'.1 ∈ tb) (hL : Cond.methodLink M.1.cls idx M'.1 ∈ tb) (hR : M'.2.2.2.2 + 1 ≤ R.frames ∧ 8 + (M'.2.2.1 + 11) + 40 * M'.2.2.2.2 ≤ R.locals) (hrc : cells + mc ≤ R.cells ∧ slots + ms ≤ R.slots) (hlen : As.length = n) (hsz : la.size = M.2.2.1) (hst : st0 = As.reverse ++ .ref b :: rest) (hcat : (rest.map fun v => v.category).sum ≤ 8) (hd : decode M.2.1 pc = .ok (.invokespecial idx, 3)) (hP : va_P D vwCl ws H) (hD : va_D A ws) (hK : va_K D vwCl (tyL cA) s) (hO : va_AO RX0 s ∧ va_AO RX2 s) (hS : va_S A s.heap H locs) (hA : ∀ q, s.heap.size ≤ q → A q) (k : Nat) (isR : List Nat) (hC0 : [k].map (fun i => ws[i]?) = [(b, e0)].map some) (hR0 : isR.map (fun i => ws[i]?) = wr.map some) (hnd : va_nd isR = true) (hdis : ∀ i ∈ isR, i ∉ [k])
    (kk : ∀ (u : S) (H1 : Heap) (locs1 : List Loc), va_P D vwCl (wr ++ W1 cA u) H1 → va_D A (wr ++ W1 cA u) → va_S A s.heap H1 locs1 → W p l e R s m args below meth c H1 locs1 (cells + mc) (slots + ms) Q (F0 m (pc + 3) la rest)) : W p l e R s m args below meth c H locs cells slots Q (F0 m pc la st0) := by
  have hk : ws[k]? = some (b, e0) := by simpa using hC0
  have hPc : va_P D vwCl [(b, e0)] H := fun j q hj => by
    have hz : j < 1 := (List.getElem?_eq_some_iff.mp hj).1
    rw [show j = 0 by omega] at hj
    cases hj
    exact hP k _ hk
  have hDc : va_D (fun _ => True) [(b, e0)] := ⟨fun i j x y hx hy _ => by
    have h1 := (List.getElem?_eq_some_iff.mp hx).1
    have h2 := (List.getElem?_eq_some_iff.mp hy).1
    simp at h1 h2
    omega, fun _ _ _ => trivial⟩
  have hFc := va_free (wc := [(b, e0)]) hD hS hA [k] hC0
  have hcw : CallB R s args M.1.cls idx M'.1 M'.2.1 M'.2.2.1 none (wsM M') (rmK M' mc ms) mc ms n := by
    have := callB_of (ret := M'.2.2.2.1) (R := R) (rm := rmK M' mc ms) n htb (good_tb hM) rfl rfl rfl (htb _ hM.2.1) (htb _ hL) hM.2.2 hR
    rw [hret] at this
    exact this
  refine va_callv (va_runI (As := As) (rest := rest) ⟨hx, hb, hml, hown, htb⟩ (hC l D cA H.size) ⟨hcw, hN, htb _ hI⟩ ⟨fun a U f mk q => ?_, fun U hU hW => ⟨rfl, by rw [hU], by rw [hU]; exact hPc, va_K.moved hW.alike hK, hDc, va_AO.moved hW.alike hO.1, va_AO.moved hW.alike hO.2⟩⟩ rfl hlen hsz hst (lv_room hcat) hd hrc) hS (fun q _ h => hFc q h) hFc (fun u t H1 locs1 ht hvm hw hB hz1 hk1 hS1 => ?_)
  · obtain ⟨q0, q1, qP, qK, qD, qO, qO2⟩ := q
    exact ⟨q0, q1, qP, va_K.moved (u := U) (U := U.calling f mk a) (Vm.Alike.refl U.vm) qK, qD, va_AO.moved (u := U) (U := U.calling f mk a) (Vm.Alike.refl U.vm) qO, va_AO.moved (u := U) (U := U.calling f mk a) (Vm.Alike.refl U.vm) qO2⟩
  · obtain ⟨hP1, hD1⟩ := hB
    rw [ht] at hP1
    obtain ⟨hP2, hD2⟩ := va_join (wr := wr) (w1 := W1 cA u) hP hD [k] isR hC0 hR0 hnd hdis hk1 hFc hP1 hD1
    exact kk u H1 locs1 hP2 hD2 hS1
theorem kA_i {c' : ClassId} (h : va_K D vwCl (tyL cA ++ [(c', .int)]) s) : c' = cA 0 := by
  have h1 : s.vm.findClass ("[" ++ FieldType.int.toString) = some (cA 0) := (h.2 0 _ rfl).2
  have h2 : s.vm.findClass ("[" ++ FieldType.int.toString) = some c' := (h.2 4 _ rfl).2
  exact Option.some.inj (h2.symm.trans h1)
theorem kA_b {c' : ClassId} (h : va_K D vwCl (tyL cA ++ [(c', .byte)]) s) : c' = cA 1 := by
  have h1 : s.vm.findClass ("[" ++ FieldType.byte.toString) = some (cA 1) := (h.2 1 _ rfl).2
  have h2 : s.vm.findClass ("[" ++ FieldType.byte.toString) = some c' := (h.2 4 _ rfl).2
  exact Option.some.inj (h2.symm.trans h1)
theorem kA_f {c' : ClassId} (h : va_K D vwCl (tyL cA ++ [(c', .object "SheafVotes$Farm")]) s) : c' = cA 2 := by
  obtain ⟨-, -, -, -, -, h1⟩ := (h.2 2 _ rfl).2
  obtain ⟨-, -, -, -, -, h2⟩ := (h.2 4 _ rfl).2
  exact Option.some.inj (h2.symm.trans h1)
theorem kA_s {c' : ClassId} (h : va_K D vwCl (tyL cA ++ [(c', .object "SheafVotes$Sheet")]) s) : c' = cA 3 := by
  obtain ⟨-, -, -, -, -, h1⟩ := (h.2 3 _ rfl).2
  obtain ⟨-, -, -, -, -, h2⟩ := (h.2 4 _ rfl).2
  exact Option.some.inj (h2.symm.trans h1)
end CTC
theorem df_0 : ∀ j, j < (clC 0).2.2 → defaultValue (tyC 0 j) = vp_V [.int 0, .int 0, .int 0, .int 0, .int 0, .int 0, .int 0] j := by decide +kernel
theorem df_1 : ∀ j, j < (clC 1).2.2 → defaultValue (tyC 1 j) = vp_V [.null, .null, .null, .int 0, .int 0, .int 0] j := by decide +kernel
theorem df_2 : ∀ j, j < (clC 2).2.2 → defaultValue (tyC 2 j) = vp_V [.null, .int 0, .int 0] j := by decide +kernel
theorem df_3 : ∀ j, j < (clC 3).2.2 → defaultValue (tyC 3 j) = vp_V [.null, .int 0, .int 0, .int 0, .int 0, .int 0] j := by decide +kernel
theorem df_4 : ∀ j, j < (clC 4).2.2 → defaultValue (tyC 4 j) = vp_V [.null, .null] j := by decide +kernel
theorem df_5 : ∀ j, j < (clC 5).2.2 → defaultValue (tyC 5 j) = vp_V [.null, .null, .null, .null, .null, .null, .null, .int 0] j := by decide +kernel
theorem df_6 : ∀ j, j < (clC 6).2.2 → defaultValue (tyC 6 j) = vp_V [.null, .null, .null, .null, .int 0, .null, .null, .int 0, .null, .null, .null, .null, .null, .int 0, .int 0, .int 0, .int 0, .int 0, .int 0, .int 0] j := by decide +kernel
theorem cn0 : (0 : Int32).toNatClampNeg = 0 ∧ (1 : Int32).toNatClampNeg = 1 ∧ (2 : Int32).toNatClampNeg = 2 ∧ (3 : Int32).toNatClampNeg = 3 ∧ (4 : Int32).toNatClampNeg = 4 ∧ (5 : Int32).toNatClampNeg = 5 ∧ (6 : Int32).toNatClampNeg = 6 ∧ (7 : Int32).toNatClampNeg = 7 ∧ (8 : Int32).toNatClampNeg = 8 ∧ (9 : Int32).toNatClampNeg = 9 := by decide
