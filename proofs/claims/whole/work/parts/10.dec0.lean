/-! decode rows -/
theorem dX0_mayBe_0 : decode mX0_mayBe.2.1 0 = .ok (.iload_n 0, 1) := by decide +kernel
theorem dX0_mayBe_1 : decode mX0_mayBe.2.1 1 = .ok (.iconst 0, 1) := by decide +kernel
theorem dX0_mayBe_2 : decode mX0_mayBe.2.1 2 = .ok (.iconst 4, 1) := by decide +kernel
theorem dX0_mayBe_3 : decode mX0_mayBe.2.1 3 = .ok (.invokestatic 21, 3) := by decide +kernel
theorem dX0_mayBe_6 : decode mX0_mayBe.2.1 6 = .ok (.ifCond .eq 24, 3) := by decide +kernel
theorem dX0_mayBe_9 : decode mX0_mayBe.2.1 9 = .ok (.iload_n 1, 1) := by decide +kernel
theorem dX0_mayBe_10 : decode mX0_mayBe.2.1 10 = .ok (.getstatic 25, 3) := by decide +kernel
theorem dX0_mayBe_13 : decode mX0_mayBe.2.1 13 = .ok (.iload_n 0, 1) := by decide +kernel
theorem dX0_mayBe_14 : decode mX0_mayBe.2.1 14 = .ok (.iaload, 1) := by decide +kernel
theorem dX0_mayBe_15 : decode mX0_mayBe.2.1 15 = .ok (.getstatic 29, 3) := by decide +kernel
theorem dX0_mayBe_18 : decode mX0_mayBe.2.1 18 = .ok (.iload_n 0, 1) := by decide +kernel
theorem dX0_mayBe_19 : decode mX0_mayBe.2.1 19 = .ok (.iaload, 1) := by decide +kernel
theorem dX0_mayBe_20 : decode mX0_mayBe.2.1 20 = .ok (.invokestatic 21, 3) := by decide +kernel
theorem dX0_mayBe_23 : decode mX0_mayBe.2.1 23 = .ok (.ifCond .eq 7, 3) := by decide +kernel
theorem dX0_mayBe_26 : decode mX0_mayBe.2.1 26 = .ok (.iconst 1, 1) := by decide +kernel
theorem dX0_mayBe_27 : decode mX0_mayBe.2.1 27 = .ok (.goto 4, 3) := by decide +kernel
theorem dX0_mayBe_30 : decode mX0_mayBe.2.1 30 = .ok (.iconst 0, 1) := by decide +kernel
theorem dX0_mayBe_31 : decode mX0_mayBe.2.1 31 = .ok (.ireturn, 1) := by decide +kernel
theorem dX0_begin_0 : decode mX0_begin.2.1 0 = .ok (.aload_n 0, 1) := by decide +kernel
theorem dX0_begin_1 : decode mX0_begin.2.1 1 = .ok (.iload_n 1, 1) := by decide +kernel
theorem dX0_begin_2 : decode mX0_begin.2.1 2 = .ok (.putfield 9, 3) := by decide +kernel
theorem dX0_begin_5 : decode mX0_begin.2.1 5 = .ok (.aload_n 0, 1) := by decide +kernel
theorem dX0_begin_6 : decode mX0_begin.2.1 6 = .ok (.iload_n 2, 1) := by decide +kernel
theorem dX0_begin_7 : decode mX0_begin.2.1 7 = .ok (.putfield 32, 3) := by decide +kernel
theorem dX0_begin_10 : decode mX0_begin.2.1 10 = .ok (.aload_n 0, 1) := by decide +kernel
theorem dX0_begin_11 : decode mX0_begin.2.1 11 = .ok (.iconst 4, 1) := by decide +kernel
theorem dX0_begin_12 : decode mX0_begin.2.1 12 = .ok (.putfield 15, 3) := by decide +kernel
theorem dX0_begin_15 : decode mX0_begin.2.1 15 = .ok (.aload_n 0, 1) := by decide +kernel
theorem dX0_begin_16 : decode mX0_begin.2.1 16 = .ok (.iconst 0, 1) := by decide +kernel
theorem dX0_begin_17 : decode mX0_begin.2.1 17 = .ok (.putfield 35, 3) := by decide +kernel
theorem dX0_begin_20 : decode mX0_begin.2.1 20 = .ok (.aload_n 0, 1) := by decide +kernel
theorem dX0_begin_21 : decode mX0_begin.2.1 21 = .ok (.iconst 0, 1) := by decide +kernel
theorem dX0_begin_22 : decode mX0_begin.2.1 22 = .ok (.putfield 38, 3) := by decide +kernel
theorem dX0_begin_25 : decode mX0_begin.2.1 25 = .ok (.aload_n 0, 1) := by decide +kernel
theorem dX0_begin_26 : decode mX0_begin.2.1 26 = .ok (.iconst (-1), 1) := by decide +kernel
theorem dX0_begin_27 : decode mX0_begin.2.1 27 = .ok (.putfield 18, 3) := by decide +kernel
theorem dX0_begin_30 : decode mX0_begin.2.1 30 = .ok (.return_, 1) := by decide +kernel
theorem dX0_becomes_0 : decode mX0_becomes.2.1 0 = .ok (.aload_n 0, 1) := by decide +kernel
theorem dX0_becomes_1 : decode mX0_becomes.2.1 1 = .ok (.aload_n 1, 1) := by decide +kernel
theorem dX0_becomes_2 : decode mX0_becomes.2.1 2 = .ok (.getfield 9, 3) := by decide +kernel
theorem dX0_becomes_5 : decode mX0_becomes.2.1 5 = .ok (.putfield 9, 3) := by decide +kernel
theorem dX0_becomes_8 : decode mX0_becomes.2.1 8 = .ok (.aload_n 0, 1) := by decide +kernel
theorem dX0_becomes_9 : decode mX0_becomes.2.1 9 = .ok (.aload_n 1, 1) := by decide +kernel
theorem dX0_becomes_10 : decode mX0_becomes.2.1 10 = .ok (.getfield 32, 3) := by decide +kernel
theorem dX0_becomes_13 : decode mX0_becomes.2.1 13 = .ok (.putfield 32, 3) := by decide +kernel
theorem dX0_becomes_16 : decode mX0_becomes.2.1 16 = .ok (.aload_n 0, 1) := by decide +kernel
theorem dX0_becomes_17 : decode mX0_becomes.2.1 17 = .ok (.aload_n 1, 1) := by decide +kernel
theorem dX0_becomes_18 : decode mX0_becomes.2.1 18 = .ok (.getfield 15, 3) := by decide +kernel
theorem dX0_becomes_21 : decode mX0_becomes.2.1 21 = .ok (.putfield 15, 3) := by decide +kernel
theorem dX0_becomes_24 : decode mX0_becomes.2.1 24 = .ok (.aload_n 0, 1) := by decide +kernel
theorem dX0_becomes_25 : decode mX0_becomes.2.1 25 = .ok (.aload_n 1, 1) := by decide +kernel
theorem dX0_becomes_26 : decode mX0_becomes.2.1 26 = .ok (.getfield 35, 3) := by decide +kernel
theorem dX0_becomes_29 : decode mX0_becomes.2.1 29 = .ok (.putfield 35, 3) := by decide +kernel
theorem dX0_becomes_32 : decode mX0_becomes.2.1 32 = .ok (.aload_n 0, 1) := by decide +kernel
theorem dX0_becomes_33 : decode mX0_becomes.2.1 33 = .ok (.aload_n 1, 1) := by decide +kernel
theorem dX0_becomes_34 : decode mX0_becomes.2.1 34 = .ok (.getfield 38, 3) := by decide +kernel
theorem dX0_becomes_37 : decode mX0_becomes.2.1 37 = .ok (.putfield 38, 3) := by decide +kernel
theorem dX0_becomes_40 : decode mX0_becomes.2.1 40 = .ok (.aload_n 0, 1) := by decide +kernel
theorem dX0_becomes_41 : decode mX0_becomes.2.1 41 = .ok (.aload_n 1, 1) := by decide +kernel
theorem dX0_becomes_42 : decode mX0_becomes.2.1 42 = .ok (.getfield 18, 3) := by decide +kernel
theorem dX0_becomes_45 : decode mX0_becomes.2.1 45 = .ok (.putfield 18, 3) := by decide +kernel
theorem dX0_becomes_48 : decode mX0_becomes.2.1 48 = .ok (.aload_n 0, 1) := by decide +kernel
theorem dX0_becomes_49 : decode mX0_becomes.2.1 49 = .ok (.aload_n 1, 1) := by decide +kernel
theorem dX0_becomes_50 : decode mX0_becomes.2.1 50 = .ok (.getfield 41, 3) := by decide +kernel
theorem dX0_becomes_53 : decode mX0_becomes.2.1 53 = .ok (.putfield 41, 3) := by decide +kernel
theorem dX0_becomes_56 : decode mX0_becomes.2.1 56 = .ok (.return_, 1) := by decide +kernel
theorem dX0_told_0 : decode mX0_told.2.1 0 = .ok (.iload_n 1, 1) := by decide +kernel
theorem dX0_told_1 : decode mX0_told.2.1 1 = .ok (.tableswitch 51 0 3 #[31, 36, 41, 46], 31) := by decide +kernel
theorem dX0_told_32 : decode mX0_told.2.1 32 = .ok (.aload_n 0, 1) := by decide +kernel
theorem dX0_told_33 : decode mX0_told.2.1 33 = .ok (.getfield 9, 3) := by decide +kernel
theorem dX0_told_36 : decode mX0_told.2.1 36 = .ok (.ireturn, 1) := by decide +kernel
theorem dX0_told_37 : decode mX0_told.2.1 37 = .ok (.aload_n 0, 1) := by decide +kernel
theorem dX0_told_38 : decode mX0_told.2.1 38 = .ok (.getfield 32, 3) := by decide +kernel
theorem dX0_told_41 : decode mX0_told.2.1 41 = .ok (.ireturn, 1) := by decide +kernel
theorem dX0_told_42 : decode mX0_told.2.1 42 = .ok (.aload_n 0, 1) := by decide +kernel
theorem dX0_told_43 : decode mX0_told.2.1 43 = .ok (.getfield 15, 3) := by decide +kernel
theorem dX0_told_46 : decode mX0_told.2.1 46 = .ok (.ireturn, 1) := by decide +kernel
theorem dX0_told_47 : decode mX0_told.2.1 47 = .ok (.aload_n 0, 1) := by decide +kernel
theorem dX0_told_48 : decode mX0_told.2.1 48 = .ok (.getfield 35, 3) := by decide +kernel
theorem dX0_told_51 : decode mX0_told.2.1 51 = .ok (.ireturn, 1) := by decide +kernel
theorem dX0_told_52 : decode mX0_told.2.1 52 = .ok (.aload_n 0, 1) := by decide +kernel
theorem dX0_told_53 : decode mX0_told.2.1 53 = .ok (.getfield 38, 3) := by decide +kernel
theorem dX0_told_56 : decode mX0_told.2.1 56 = .ok (.ireturn, 1) := by decide +kernel
theorem dX0_alter_0 : decode mX0_alter.2.1 0 = .ok (.iload_n 1, 1) := by decide +kernel
theorem dX0_alter_1 : decode mX0_alter.2.1 1 = .ok (.tableswitch 63 0 3 #[31, 39, 47, 55], 31) := by decide +kernel
theorem dX0_alter_32 : decode mX0_alter.2.1 32 = .ok (.aload_n 0, 1) := by decide +kernel
theorem dX0_alter_33 : decode mX0_alter.2.1 33 = .ok (.iload_n 2, 1) := by decide +kernel
theorem dX0_alter_34 : decode mX0_alter.2.1 34 = .ok (.putfield 9, 3) := by decide +kernel
theorem dX0_alter_37 : decode mX0_alter.2.1 37 = .ok (.goto 32, 3) := by decide +kernel
theorem dX0_alter_40 : decode mX0_alter.2.1 40 = .ok (.aload_n 0, 1) := by decide +kernel
theorem dX0_alter_41 : decode mX0_alter.2.1 41 = .ok (.iload_n 2, 1) := by decide +kernel
theorem dX0_alter_42 : decode mX0_alter.2.1 42 = .ok (.putfield 32, 3) := by decide +kernel
theorem dX0_alter_45 : decode mX0_alter.2.1 45 = .ok (.goto 24, 3) := by decide +kernel
theorem dX0_alter_48 : decode mX0_alter.2.1 48 = .ok (.aload_n 0, 1) := by decide +kernel
theorem dX0_alter_49 : decode mX0_alter.2.1 49 = .ok (.iload_n 2, 1) := by decide +kernel
theorem dX0_alter_50 : decode mX0_alter.2.1 50 = .ok (.putfield 15, 3) := by decide +kernel
theorem dX0_alter_53 : decode mX0_alter.2.1 53 = .ok (.goto 16, 3) := by decide +kernel
theorem dX0_alter_56 : decode mX0_alter.2.1 56 = .ok (.aload_n 0, 1) := by decide +kernel
theorem dX0_alter_57 : decode mX0_alter.2.1 57 = .ok (.iload_n 2, 1) := by decide +kernel
theorem dX0_alter_58 : decode mX0_alter.2.1 58 = .ok (.putfield 35, 3) := by decide +kernel
theorem dX0_alter_61 : decode mX0_alter.2.1 61 = .ok (.goto 8, 3) := by decide +kernel
theorem dX0_alter_64 : decode mX0_alter.2.1 64 = .ok (.aload_n 0, 1) := by decide +kernel
theorem dX0_alter_65 : decode mX0_alter.2.1 65 = .ok (.iload_n 2, 1) := by decide +kernel
theorem dX0_alter_66 : decode mX0_alter.2.1 66 = .ok (.putfield 38, 3) := by decide +kernel
theorem dX0_alter_69 : decode mX0_alter.2.1 69 = .ok (.aload_n 0, 1) := by decide +kernel
theorem dX0_alter_70 : decode mX0_alter.2.1 70 = .ok (.iconst (-1), 1) := by decide +kernel
theorem dX0_alter_71 : decode mX0_alter.2.1 71 = .ok (.putfield 18, 3) := by decide +kernel
theorem dX0_alter_74 : decode mX0_alter.2.1 74 = .ok (.return_, 1) := by decide +kernel
theorem dX0_isOfKind_0 : decode mX0_isOfKind.2.1 0 = .ok (.aload_n 0, 1) := by decide +kernel
theorem dX0_isOfKind_1 : decode mX0_isOfKind.2.1 1 = .ok (.getfield 9, 3) := by decide +kernel
theorem dX0_isOfKind_4 : decode mX0_isOfKind.2.1 4 = .ok (.istore_n 2, 1) := by decide +kernel
theorem dX0_isOfKind_5 : decode mX0_isOfKind.2.1 5 = .ok (.iconst 0, 1) := by decide +kernel
theorem dX0_isOfKind_6 : decode mX0_isOfKind.2.1 6 = .ok (.istore_n 3, 1) := by decide +kernel
theorem dX0_isOfKind_7 : decode mX0_isOfKind.2.1 7 = .ok (.iload_n 3, 1) := by decide +kernel
theorem dX0_isOfKind_8 : decode mX0_isOfKind.2.1 8 = .ok (.bipush 7, 2) := by decide +kernel
theorem dX0_isOfKind_10 : decode mX0_isOfKind.2.1 10 = .ok (.if_icmp .ge 27, 3) := by decide +kernel
theorem dX0_isOfKind_13 : decode mX0_isOfKind.2.1 13 = .ok (.iload_n 2, 1) := by decide +kernel
theorem dX0_isOfKind_14 : decode mX0_isOfKind.2.1 14 = .ok (.iconst (-1), 1) := by decide +kernel
theorem dX0_isOfKind_15 : decode mX0_isOfKind.2.1 15 = .ok (.if_icmp .eq 22, 3) := by decide +kernel
theorem dX0_isOfKind_18 : decode mX0_isOfKind.2.1 18 = .ok (.iload_n 2, 1) := by decide +kernel
theorem dX0_isOfKind_19 : decode mX0_isOfKind.2.1 19 = .ok (.iload_n 1, 1) := by decide +kernel
theorem dX0_isOfKind_20 : decode mX0_isOfKind.2.1 20 = .ok (.if_icmp .ne 5, 3) := by decide +kernel
theorem dX0_isOfKind_23 : decode mX0_isOfKind.2.1 23 = .ok (.iconst 1, 1) := by decide +kernel
theorem dX0_isOfKind_24 : decode mX0_isOfKind.2.1 24 = .ok (.ireturn, 1) := by decide +kernel
theorem dX0_isOfKind_25 : decode mX0_isOfKind.2.1 25 = .ok (.getstatic 44, 3) := by decide +kernel
theorem dX0_isOfKind_28 : decode mX0_isOfKind.2.1 28 = .ok (.iload_n 2, 1) := by decide +kernel
theorem dX0_isOfKind_29 : decode mX0_isOfKind.2.1 29 = .ok (.iaload, 1) := by decide +kernel
theorem dX0_isOfKind_30 : decode mX0_isOfKind.2.1 30 = .ok (.istore_n 2, 1) := by decide +kernel
theorem dX0_isOfKind_31 : decode mX0_isOfKind.2.1 31 = .ok (.iinc 3 1, 3) := by decide +kernel
theorem dX0_isOfKind_34 : decode mX0_isOfKind.2.1 34 = .ok (.goto (-27), 3) := by decide +kernel
theorem dX0_isOfKind_37 : decode mX0_isOfKind.2.1 37 = .ok (.iconst 0, 1) := by decide +kernel
theorem dX0_isOfKind_38 : decode mX0_isOfKind.2.1 38 = .ok (.ireturn, 1) := by decide +kernel
theorem dX0_reapsOf_0 : decode mX0_reapsOf.2.1 0 = .ok (.iconst 1, 1) := by decide +kernel
theorem dX0_reapsOf_1 : decode mX0_reapsOf.2.1 1 = .ok (.iconst 2, 1) := by decide +kernel
theorem dX0_reapsOf_2 : decode mX0_reapsOf.2.1 2 = .ok (.aload_n 0, 1) := by decide +kernel
theorem dX0_reapsOf_3 : decode mX0_reapsOf.2.1 3 = .ok (.getfield 15, 3) := by decide +kernel
theorem dX0_reapsOf_6 : decode mX0_reapsOf.2.1 6 = .ok (.imul, 1) := by decide +kernel
theorem dX0_reapsOf_7 : decode mX0_reapsOf.2.1 7 = .ok (.iload_n 2, 1) := by decide +kernel
theorem dX0_reapsOf_8 : decode mX0_reapsOf.2.1 8 = .ok (.bipush 10, 2) := by decide +kernel
theorem dX0_reapsOf_10 : decode mX0_reapsOf.2.1 10 = .ok (.idiv, 1) := by decide +kernel
theorem dX0_reapsOf_11 : decode mX0_reapsOf.2.1 11 = .ok (.isub, 1) := by decide +kernel
theorem dX0_reapsOf_12 : decode mX0_reapsOf.2.1 12 = .ok (.invokestatic 47, 3) := by decide +kernel
theorem dX0_reapsOf_15 : decode mX0_reapsOf.2.1 15 = .ok (.istore_n 3, 1) := by decide +kernel
theorem dX0_reapsOf_16 : decode mX0_reapsOf.2.1 16 = .ok (.iconst 1, 1) := by decide +kernel
theorem dX0_reapsOf_17 : decode mX0_reapsOf.2.1 17 = .ok (.iload_n 3, 1) := by decide +kernel
theorem dX0_reapsOf_18 : decode mX0_reapsOf.2.1 18 = .ok (.iconst 2, 1) := by decide +kernel
theorem dX0_reapsOf_19 : decode mX0_reapsOf.2.1 19 = .ok (.idiv, 1) := by decide +kernel
theorem dX0_reapsOf_20 : decode mX0_reapsOf.2.1 20 = .ok (.invokestatic 47, 3) := by decide +kernel
theorem dX0_reapsOf_23 : decode mX0_reapsOf.2.1 23 = .ok (.istore 4, 2) := by decide +kernel
theorem dX0_reapsOf_25 : decode mX0_reapsOf.2.1 25 = .ok (.iload_n 3, 1) := by decide +kernel
theorem dX0_reapsOf_26 : decode mX0_reapsOf.2.1 26 = .ok (.iconst 3, 1) := by decide +kernel
theorem dX0_reapsOf_27 : decode mX0_reapsOf.2.1 27 = .ok (.iadd, 1) := by decide +kernel
theorem dX0_reapsOf_28 : decode mX0_reapsOf.2.1 28 = .ok (.istore 5, 2) := by decide +kernel
theorem dX0_reapsOf_30 : decode mX0_reapsOf.2.1 30 = .ok (.iload_n 1, 1) := by decide +kernel
theorem dX0_reapsOf_31 : decode mX0_reapsOf.2.1 31 = .ok (.bipush 20, 2) := by decide +kernel
theorem dX0_reapsOf_33 : decode mX0_reapsOf.2.1 33 = .ok (.if_icmp .gt 10, 3) := by decide +kernel
theorem dX0_reapsOf_36 : decode mX0_reapsOf.2.1 36 = .ok (.iload 5, 2) := by decide +kernel
theorem dX0_reapsOf_38 : decode mX0_reapsOf.2.1 38 = .ok (.iconst 2, 1) := by decide +kernel
theorem dX0_reapsOf_39 : decode mX0_reapsOf.2.1 39 = .ok (.idiv, 1) := by decide +kernel
theorem dX0_reapsOf_40 : decode mX0_reapsOf.2.1 40 = .ok (.goto 5, 3) := by decide +kernel
theorem dX0_reapsOf_43 : decode mX0_reapsOf.2.1 43 = .ok (.iload 5, 2) := by decide +kernel
theorem dX0_reapsOf_45 : decode mX0_reapsOf.2.1 45 = .ok (.istore 6, 2) := by decide +kernel
theorem dX0_reapsOf_47 : decode mX0_reapsOf.2.1 47 = .ok (.aload_n 0, 1) := by decide +kernel
theorem dX0_reapsOf_48 : decode mX0_reapsOf.2.1 48 = .ok (.getfield 9, 3) := by decide +kernel
theorem dX0_reapsOf_51 : decode mX0_reapsOf.2.1 51 = .ok (.tableswitch 80 1 6 #[37, 49, 52, 55, 67, 40], 37) := by decide +kernel
theorem dX0_reapsOf_88 : decode mX0_reapsOf.2.1 88 = .ok (.iload 4, 2) := by decide +kernel
theorem dX0_reapsOf_90 : decode mX0_reapsOf.2.1 90 = .ok (.ireturn, 1) := by decide +kernel
theorem dX0_reapsOf_91 : decode mX0_reapsOf.2.1 91 = .ok (.iconst 1, 1) := by decide +kernel
theorem dX0_reapsOf_92 : decode mX0_reapsOf.2.1 92 = .ok (.iload 4, 2) := by decide +kernel
theorem dX0_reapsOf_94 : decode mX0_reapsOf.2.1 94 = .ok (.iconst 1, 1) := by decide +kernel
theorem dX0_reapsOf_95 : decode mX0_reapsOf.2.1 95 = .ok (.isub, 1) := by decide +kernel
theorem dX0_reapsOf_96 : decode mX0_reapsOf.2.1 96 = .ok (.invokestatic 47, 3) := by decide +kernel
theorem dX0_reapsOf_99 : decode mX0_reapsOf.2.1 99 = .ok (.ireturn, 1) := by decide +kernel
theorem dX0_reapsOf_100 : decode mX0_reapsOf.2.1 100 = .ok (.iload 5, 2) := by decide +kernel
theorem dX0_reapsOf_102 : decode mX0_reapsOf.2.1 102 = .ok (.ireturn, 1) := by decide +kernel
theorem dX0_reapsOf_103 : decode mX0_reapsOf.2.1 103 = .ok (.iload 6, 2) := by decide +kernel
theorem dX0_reapsOf_105 : decode mX0_reapsOf.2.1 105 = .ok (.ireturn, 1) := by decide +kernel
theorem dX0_reapsOf_106 : decode mX0_reapsOf.2.1 106 = .ok (.iload_n 1, 1) := by decide +kernel
theorem dX0_reapsOf_107 : decode mX0_reapsOf.2.1 107 = .ok (.iconst 5, 1) := by decide +kernel
theorem dX0_reapsOf_108 : decode mX0_reapsOf.2.1 108 = .ok (.if_icmp .gt 7, 3) := by decide +kernel
theorem dX0_reapsOf_111 : decode mX0_reapsOf.2.1 111 = .ok (.iconst 1, 1) := by decide +kernel
theorem dX0_reapsOf_112 : decode mX0_reapsOf.2.1 112 = .ok (.goto 5, 3) := by decide +kernel
theorem dX0_reapsOf_115 : decode mX0_reapsOf.2.1 115 = .ok (.iload 6, 2) := by decide +kernel
theorem dX0_reapsOf_117 : decode mX0_reapsOf.2.1 117 = .ok (.ireturn, 1) := by decide +kernel
theorem dX0_reapsOf_118 : decode mX0_reapsOf.2.1 118 = .ok (.iload_n 2, 1) := by decide +kernel
theorem dX0_reapsOf_119 : decode mX0_reapsOf.2.1 119 = .ok (.bipush 50, 2) := by decide +kernel
theorem dX0_reapsOf_121 : decode mX0_reapsOf.2.1 121 = .ok (.if_icmp .ge 8, 3) := by decide +kernel
theorem dX0_reapsOf_124 : decode mX0_reapsOf.2.1 124 = .ok (.bipush 30, 2) := by decide +kernel
theorem dX0_reapsOf_126 : decode mX0_reapsOf.2.1 126 = .ok (.goto 4, 3) := by decide +kernel
theorem dX0_reapsOf_129 : decode mX0_reapsOf.2.1 129 = .ok (.iconst 2, 1) := by decide +kernel
theorem dX0_reapsOf_130 : decode mX0_reapsOf.2.1 130 = .ok (.ireturn, 1) := by decide +kernel
theorem dX0_reapsOf_131 : decode mX0_reapsOf.2.1 131 = .ok (.iload_n 3, 1) := by decide +kernel
theorem dX0_reapsOf_132 : decode mX0_reapsOf.2.1 132 = .ok (.ireturn, 1) := by decide +kernel
theorem dX0_daysIn_0 : decode mX0_daysIn.2.1 0 = .ok (.aload_n 0, 1) := by decide +kernel
theorem dX0_daysIn_1 : decode mX0_daysIn.2.1 1 = .ok (.getfield 18, 3) := by decide +kernel
theorem dX0_daysIn_4 : decode mX0_daysIn.2.1 4 = .ok (.iload_n 1, 1) := by decide +kernel
theorem dX0_daysIn_5 : decode mX0_daysIn.2.1 5 = .ok (.if_icmp .ne 8, 3) := by decide +kernel
theorem dX0_daysIn_8 : decode mX0_daysIn.2.1 8 = .ok (.aload_n 0, 1) := by decide +kernel
theorem dX0_daysIn_9 : decode mX0_daysIn.2.1 9 = .ok (.getfield 41, 3) := by decide +kernel
theorem dX0_daysIn_12 : decode mX0_daysIn.2.1 12 = .ok (.ireturn, 1) := by decide +kernel
theorem dX0_daysIn_13 : decode mX0_daysIn.2.1 13 = .ok (.aload_n 0, 1) := by decide +kernel
theorem dX0_daysIn_14 : decode mX0_daysIn.2.1 14 = .ok (.getfield 32, 3) := by decide +kernel
theorem dX0_daysIn_17 : decode mX0_daysIn.2.1 17 = .ok (.istore_n 2, 1) := by decide +kernel
theorem dX0_daysIn_18 : decode mX0_daysIn.2.1 18 = .ok (.iconst 0, 1) := by decide +kernel
theorem dX0_daysIn_19 : decode mX0_daysIn.2.1 19 = .ok (.istore_n 3, 1) := by decide +kernel
theorem dX0_daysIn_20 : decode mX0_daysIn.2.1 20 = .ok (.getstatic 53, 3) := by decide +kernel
theorem dX0_daysIn_23 : decode mX0_daysIn.2.1 23 = .ok (.astore 4, 2) := by decide +kernel
theorem dX0_daysIn_25 : decode mX0_daysIn.2.1 25 = .ok (.aload 4, 2) := by decide +kernel
theorem dX0_daysIn_27 : decode mX0_daysIn.2.1 27 = .ok (.arraylength, 1) := by decide +kernel
theorem dX0_daysIn_28 : decode mX0_daysIn.2.1 28 = .ok (.istore 5, 2) := by decide +kernel
theorem dX0_daysIn_30 : decode mX0_daysIn.2.1 30 = .ok (.iconst 0, 1) := by decide +kernel
theorem dX0_daysIn_31 : decode mX0_daysIn.2.1 31 = .ok (.istore 6, 2) := by decide +kernel
theorem dX0_daysIn_33 : decode mX0_daysIn.2.1 33 = .ok (.iload 6, 2) := by decide +kernel
theorem dX0_daysIn_35 : decode mX0_daysIn.2.1 35 = .ok (.iload 5, 2) := by decide +kernel
theorem dX0_daysIn_37 : decode mX0_daysIn.2.1 37 = .ok (.if_icmp .ge 47, 3) := by decide +kernel
theorem dX0_daysIn_40 : decode mX0_daysIn.2.1 40 = .ok (.aload 4, 2) := by decide +kernel
theorem dX0_daysIn_42 : decode mX0_daysIn.2.1 42 = .ok (.iload 6, 2) := by decide +kernel
theorem dX0_daysIn_44 : decode mX0_daysIn.2.1 44 = .ok (.iaload, 1) := by decide +kernel
theorem dX0_daysIn_45 : decode mX0_daysIn.2.1 45 = .ok (.istore 7, 2) := by decide +kernel
theorem dX0_daysIn_47 : decode mX0_daysIn.2.1 47 = .ok (.aload_n 0, 1) := by decide +kernel
theorem dX0_daysIn_48 : decode mX0_daysIn.2.1 48 = .ok (.iload_n 2, 1) := by decide +kernel
theorem dX0_daysIn_49 : decode mX0_daysIn.2.1 49 = .ok (.iload_n 1, 1) := by decide +kernel
theorem dX0_daysIn_50 : decode mX0_daysIn.2.1 50 = .ok (.invokevirtual 56, 3) := by decide +kernel
theorem dX0_daysIn_53 : decode mX0_daysIn.2.1 53 = .ok (.istore 8, 2) := by decide +kernel
theorem dX0_daysIn_55 : decode mX0_daysIn.2.1 55 = .ok (.iload 7, 2) := by decide +kernel
theorem dX0_daysIn_57 : decode mX0_daysIn.2.1 57 = .ok (.iload_n 2, 1) := by decide +kernel
theorem dX0_daysIn_58 : decode mX0_daysIn.2.1 58 = .ok (.iload 8, 2) := by decide +kernel
theorem dX0_daysIn_60 : decode mX0_daysIn.2.1 60 = .ok (.invokestatic 59, 3) := by decide +kernel
theorem dX0_daysIn_63 : decode mX0_daysIn.2.1 63 = .ok (.istore 9, 2) := by decide +kernel
theorem dX0_daysIn_65 : decode mX0_daysIn.2.1 65 = .ok (.iload_n 2, 1) := by decide +kernel
theorem dX0_daysIn_66 : decode mX0_daysIn.2.1 66 = .ok (.iload 9, 2) := by decide +kernel
theorem dX0_daysIn_68 : decode mX0_daysIn.2.1 68 = .ok (.iload 8, 2) := by decide +kernel
theorem dX0_daysIn_70 : decode mX0_daysIn.2.1 70 = .ok (.imul, 1) := by decide +kernel
theorem dX0_daysIn_71 : decode mX0_daysIn.2.1 71 = .ok (.isub, 1) := by decide +kernel
theorem dX0_daysIn_72 : decode mX0_daysIn.2.1 72 = .ok (.istore_n 2, 1) := by decide +kernel
theorem dX0_daysIn_73 : decode mX0_daysIn.2.1 73 = .ok (.iload_n 3, 1) := by decide +kernel
theorem dX0_daysIn_74 : decode mX0_daysIn.2.1 74 = .ok (.iload 9, 2) := by decide +kernel
theorem dX0_daysIn_76 : decode mX0_daysIn.2.1 76 = .ok (.iadd, 1) := by decide +kernel
theorem dX0_daysIn_77 : decode mX0_daysIn.2.1 77 = .ok (.istore_n 3, 1) := by decide +kernel
theorem dX0_daysIn_78 : decode mX0_daysIn.2.1 78 = .ok (.iinc 6 1, 3) := by decide +kernel
theorem dX0_daysIn_81 : decode mX0_daysIn.2.1 81 = .ok (.goto (-48), 3) := by decide +kernel
theorem dX0_daysIn_84 : decode mX0_daysIn.2.1 84 = .ok (.aload_n 0, 1) := by decide +kernel
theorem dX0_daysIn_85 : decode mX0_daysIn.2.1 85 = .ok (.iload_n 3, 1) := by decide +kernel
theorem dX0_daysIn_86 : decode mX0_daysIn.2.1 86 = .ok (.putfield 41, 3) := by decide +kernel
theorem dX0_daysIn_89 : decode mX0_daysIn.2.1 89 = .ok (.aload_n 0, 1) := by decide +kernel
theorem dX0_daysIn_90 : decode mX0_daysIn.2.1 90 = .ok (.iload_n 1, 1) := by decide +kernel
theorem dX0_daysIn_91 : decode mX0_daysIn.2.1 91 = .ok (.putfield 18, 3) := by decide +kernel
theorem dX0_daysIn_94 : decode mX0_daysIn.2.1 94 = .ok (.iload_n 3, 1) := by decide +kernel
theorem dX0_daysIn_95 : decode mX0_daysIn.2.1 95 = .ok (.ireturn, 1) := by decide +kernel
theorem dX0_leftBehind_0 : decode mX0_leftBehind.2.1 0 = .ok (.aload_n 0, 1) := by decide +kernel
theorem dX0_leftBehind_1 : decode mX0_leftBehind.2.1 1 = .ok (.getfield 32, 3) := by decide +kernel
theorem dX0_leftBehind_4 : decode mX0_leftBehind.2.1 4 = .ok (.istore_n 3, 1) := by decide +kernel
theorem dX0_leftBehind_5 : decode mX0_leftBehind.2.1 5 = .ok (.iload_n 1, 1) := by decide +kernel
theorem dX0_leftBehind_6 : decode mX0_leftBehind.2.1 6 = .ok (.istore 4, 2) := by decide +kernel
theorem dX0_leftBehind_8 : decode mX0_leftBehind.2.1 8 = .ok (.getstatic 53, 3) := by decide +kernel
theorem dX0_leftBehind_11 : decode mX0_leftBehind.2.1 11 = .ok (.astore 5, 2) := by decide +kernel
theorem dX0_leftBehind_13 : decode mX0_leftBehind.2.1 13 = .ok (.aload 5, 2) := by decide +kernel
theorem dX0_leftBehind_15 : decode mX0_leftBehind.2.1 15 = .ok (.arraylength, 1) := by decide +kernel
theorem dX0_leftBehind_16 : decode mX0_leftBehind.2.1 16 = .ok (.istore 6, 2) := by decide +kernel
theorem dX0_leftBehind_18 : decode mX0_leftBehind.2.1 18 = .ok (.iconst 0, 1) := by decide +kernel
theorem dX0_leftBehind_19 : decode mX0_leftBehind.2.1 19 = .ok (.istore 7, 2) := by decide +kernel
theorem dX0_leftBehind_21 : decode mX0_leftBehind.2.1 21 = .ok (.iload 7, 2) := by decide +kernel
theorem dX0_leftBehind_23 : decode mX0_leftBehind.2.1 23 = .ok (.iload 6, 2) := by decide +kernel
theorem dX0_leftBehind_25 : decode mX0_leftBehind.2.1 25 = .ok (.if_icmp .ge 54, 3) := by decide +kernel
theorem dX0_leftBehind_28 : decode mX0_leftBehind.2.1 28 = .ok (.aload 5, 2) := by decide +kernel
theorem dX0_leftBehind_30 : decode mX0_leftBehind.2.1 30 = .ok (.iload 7, 2) := by decide +kernel
theorem dX0_leftBehind_32 : decode mX0_leftBehind.2.1 32 = .ok (.iaload, 1) := by decide +kernel
theorem dX0_leftBehind_33 : decode mX0_leftBehind.2.1 33 = .ok (.istore 8, 2) := by decide +kernel
theorem dX0_leftBehind_35 : decode mX0_leftBehind.2.1 35 = .ok (.aload_n 0, 1) := by decide +kernel
theorem dX0_leftBehind_36 : decode mX0_leftBehind.2.1 36 = .ok (.iload_n 3, 1) := by decide +kernel
theorem dX0_leftBehind_37 : decode mX0_leftBehind.2.1 37 = .ok (.iload_n 2, 1) := by decide +kernel
theorem dX0_leftBehind_38 : decode mX0_leftBehind.2.1 38 = .ok (.invokevirtual 56, 3) := by decide +kernel
theorem dX0_leftBehind_41 : decode mX0_leftBehind.2.1 41 = .ok (.istore 9, 2) := by decide +kernel
theorem dX0_leftBehind_43 : decode mX0_leftBehind.2.1 43 = .ok (.iload 4, 2) := by decide +kernel
theorem dX0_leftBehind_45 : decode mX0_leftBehind.2.1 45 = .ok (.iload 8, 2) := by decide +kernel
theorem dX0_leftBehind_47 : decode mX0_leftBehind.2.1 47 = .ok (.iload_n 3, 1) := by decide +kernel
theorem dX0_leftBehind_48 : decode mX0_leftBehind.2.1 48 = .ok (.iload 9, 2) := by decide +kernel
theorem dX0_leftBehind_50 : decode mX0_leftBehind.2.1 50 = .ok (.invokestatic 59, 3) := by decide +kernel
theorem dX0_leftBehind_53 : decode mX0_leftBehind.2.1 53 = .ok (.invokestatic 63, 3) := by decide +kernel
theorem dX0_leftBehind_56 : decode mX0_leftBehind.2.1 56 = .ok (.istore 10, 2) := by decide +kernel
theorem dX0_leftBehind_58 : decode mX0_leftBehind.2.1 58 = .ok (.iload_n 3, 1) := by decide +kernel
theorem dX0_leftBehind_59 : decode mX0_leftBehind.2.1 59 = .ok (.iload 10, 2) := by decide +kernel
theorem dX0_leftBehind_61 : decode mX0_leftBehind.2.1 61 = .ok (.iload 9, 2) := by decide +kernel
theorem dX0_leftBehind_63 : decode mX0_leftBehind.2.1 63 = .ok (.imul, 1) := by decide +kernel
theorem dX0_leftBehind_64 : decode mX0_leftBehind.2.1 64 = .ok (.isub, 1) := by decide +kernel
theorem dX0_leftBehind_65 : decode mX0_leftBehind.2.1 65 = .ok (.istore_n 3, 1) := by decide +kernel
theorem dX0_leftBehind_66 : decode mX0_leftBehind.2.1 66 = .ok (.iload 4, 2) := by decide +kernel
theorem dX0_leftBehind_68 : decode mX0_leftBehind.2.1 68 = .ok (.iload 10, 2) := by decide +kernel
theorem dX0_leftBehind_70 : decode mX0_leftBehind.2.1 70 = .ok (.isub, 1) := by decide +kernel
theorem dX0_leftBehind_71 : decode mX0_leftBehind.2.1 71 = .ok (.istore 4, 2) := by decide +kernel
theorem dX0_leftBehind_73 : decode mX0_leftBehind.2.1 73 = .ok (.iinc 7 1, 3) := by decide +kernel
theorem dX0_leftBehind_76 : decode mX0_leftBehind.2.1 76 = .ok (.goto (-55), 3) := by decide +kernel
theorem dX0_leftBehind_79 : decode mX0_leftBehind.2.1 79 = .ok (.iconst 0, 1) := by decide +kernel
theorem dX0_leftBehind_80 : decode mX0_leftBehind.2.1 80 = .ok (.iload_n 3, 1) := by decide +kernel
theorem dX0_leftBehind_81 : decode mX0_leftBehind.2.1 81 = .ok (.invokestatic 47, 3) := by decide +kernel
theorem dX0_leftBehind_84 : decode mX0_leftBehind.2.1 84 = .ok (.ireturn, 1) := by decide +kernel
theorem dX0_daysDownTo_0 : decode mX0_daysDownTo.2.1 0 = .ok (.iload_n 1, 1) := by decide +kernel
theorem dX0_daysDownTo_1 : decode mX0_daysDownTo.2.1 1 = .ok (.iload_n 0, 1) := by decide +kernel
theorem dX0_daysDownTo_2 : decode mX0_daysDownTo.2.1 2 = .ok (.if_icmp .le 8, 3) := by decide +kernel
theorem dX0_daysDownTo_5 : decode mX0_daysDownTo.2.1 5 = .ok (.iload_n 2, 1) := by decide +kernel
theorem dX0_daysDownTo_6 : decode mX0_daysDownTo.2.1 6 = .ok (.iconst 1, 1) := by decide +kernel
theorem dX0_daysDownTo_7 : decode mX0_daysDownTo.2.1 7 = .ok (.if_icmp .ge 5, 3) := by decide +kernel
theorem dX0_daysDownTo_10 : decode mX0_daysDownTo.2.1 10 = .ok (.iconst 0, 1) := by decide +kernel
theorem dX0_daysDownTo_11 : decode mX0_daysDownTo.2.1 11 = .ok (.ireturn, 1) := by decide +kernel
theorem dX0_daysDownTo_12 : decode mX0_daysDownTo.2.1 12 = .ok (.iload_n 1, 1) := by decide +kernel
theorem dX0_daysDownTo_13 : decode mX0_daysDownTo.2.1 13 = .ok (.iload_n 0, 1) := by decide +kernel
theorem dX0_daysDownTo_14 : decode mX0_daysDownTo.2.1 14 = .ok (.isub, 1) := by decide +kernel
theorem dX0_daysDownTo_15 : decode mX0_daysDownTo.2.1 15 = .ok (.iload_n 2, 1) := by decide +kernel
theorem dX0_daysDownTo_16 : decode mX0_daysDownTo.2.1 16 = .ok (.iadd, 1) := by decide +kernel
theorem dX0_daysDownTo_17 : decode mX0_daysDownTo.2.1 17 = .ok (.iconst 1, 1) := by decide +kernel
theorem dX0_daysDownTo_18 : decode mX0_daysDownTo.2.1 18 = .ok (.isub, 1) := by decide +kernel
theorem dX0_daysDownTo_19 : decode mX0_daysDownTo.2.1 19 = .ok (.iload_n 2, 1) := by decide +kernel
theorem dX0_daysDownTo_20 : decode mX0_daysDownTo.2.1 20 = .ok (.idiv, 1) := by decide +kernel
theorem dX0_daysDownTo_21 : decode mX0_daysDownTo.2.1 21 = .ok (.ireturn, 1) := by decide +kernel
theorem dX0_tells_0 : decode mX0_tells.2.1 0 = .ok (.aload_n 0, 1) := by decide +kernel
theorem dX0_tells_1 : decode mX0_tells.2.1 1 = .ok (.getfield 9, 3) := by decide +kernel
theorem dX0_tells_4 : decode mX0_tells.2.1 4 = .ok (.tableswitch 64 1 6 #[40, 44, 46, 49, 62, 42], 40) := by decide +kernel
theorem dX0_tells_44 : decode mX0_tells.2.1 44 = .ok (.iconst 2, 1) := by decide +kernel
theorem dX0_tells_45 : decode mX0_tells.2.1 45 = .ok (.ireturn, 1) := by decide +kernel
theorem dX0_tells_46 : decode mX0_tells.2.1 46 = .ok (.iconst 4, 1) := by decide +kernel
theorem dX0_tells_47 : decode mX0_tells.2.1 47 = .ok (.ireturn, 1) := by decide +kernel
theorem dX0_tells_48 : decode mX0_tells.2.1 48 = .ok (.iconst 3, 1) := by decide +kernel
theorem dX0_tells_49 : decode mX0_tells.2.1 49 = .ok (.ireturn, 1) := by decide +kernel
theorem dX0_tells_50 : decode mX0_tells.2.1 50 = .ok (.bipush (-3), 2) := by decide +kernel
theorem dX0_tells_52 : decode mX0_tells.2.1 52 = .ok (.ireturn, 1) := by decide +kernel
theorem dX0_tells_53 : decode mX0_tells.2.1 53 = .ok (.bipush (-3), 2) := by decide +kernel
theorem dX0_tells_55 : decode mX0_tells.2.1 55 = .ok (.bipush 9, 2) := by decide +kernel
theorem dX0_tells_57 : decode mX0_tells.2.1 57 = .ok (.aload_n 0, 1) := by decide +kernel
theorem dX0_tells_58 : decode mX0_tells.2.1 58 = .ok (.getfield 38, 3) := by decide +kernel
theorem dX0_tells_61 : decode mX0_tells.2.1 61 = .ok (.invokestatic 63, 3) := by decide +kernel
theorem dX0_tells_64 : decode mX0_tells.2.1 64 = .ok (.iadd, 1) := by decide +kernel
theorem dX0_tells_65 : decode mX0_tells.2.1 65 = .ok (.ireturn, 1) := by decide +kernel
theorem dX0_tells_66 : decode mX0_tells.2.1 66 = .ok (.iconst 0, 1) := by decide +kernel
theorem dX0_tells_67 : decode mX0_tells.2.1 67 = .ok (.ireturn, 1) := by decide +kernel
theorem dX0_tells_68 : decode mX0_tells.2.1 68 = .ok (.iconst 1, 1) := by decide +kernel
theorem dX0_tells_69 : decode mX0_tells.2.1 69 = .ok (.ireturn, 1) := by decide +kernel
theorem dX0_hasTheSheaf_0 : decode mX0_hasTheSheaf.2.1 0 = .ok (.aload_n 0, 1) := by decide +kernel
theorem dX0_hasTheSheaf_1 : decode mX0_hasTheSheaf.2.1 1 = .ok (.getstatic 29, 3) := by decide +kernel
theorem dX0_hasTheSheaf_4 : decode mX0_hasTheSheaf.2.1 4 = .ok (.iconst 4, 1) := by decide +kernel
theorem dX0_hasTheSheaf_5 : decode mX0_hasTheSheaf.2.1 5 = .ok (.iaload, 1) := by decide +kernel
theorem dX0_hasTheSheaf_6 : decode mX0_hasTheSheaf.2.1 6 = .ok (.aload_n 0, 1) := by decide +kernel
theorem dX0_hasTheSheaf_7 : decode mX0_hasTheSheaf.2.1 7 = .ok (.getfield 38, 3) := by decide +kernel
theorem dX0_hasTheSheaf_10 : decode mX0_hasTheSheaf.2.1 10 = .ok (.iconst 1, 1) := by decide +kernel
theorem dX0_hasTheSheaf_11 : decode mX0_hasTheSheaf.2.1 11 = .ok (.iadd, 1) := by decide +kernel
theorem dX0_hasTheSheaf_12 : decode mX0_hasTheSheaf.2.1 12 = .ok (.invokestatic 63, 3) := by decide +kernel
theorem dX0_hasTheSheaf_15 : decode mX0_hasTheSheaf.2.1 15 = .ok (.putfield 38, 3) := by decide +kernel
theorem dX0_hasTheSheaf_18 : decode mX0_hasTheSheaf.2.1 18 = .ok (.aload_n 0, 1) := by decide +kernel
theorem dX0_hasTheSheaf_19 : decode mX0_hasTheSheaf.2.1 19 = .ok (.getfield 15, 3) := by decide +kernel
theorem dX0_hasTheSheaf_22 : decode mX0_hasTheSheaf.2.1 22 = .ok (.getstatic 29, 3) := by decide +kernel
theorem dX0_hasTheSheaf_25 : decode mX0_hasTheSheaf.2.1 25 = .ok (.iconst 2, 1) := by decide +kernel
theorem dX0_hasTheSheaf_26 : decode mX0_hasTheSheaf.2.1 26 = .ok (.iaload, 1) := by decide +kernel
theorem dX0_hasTheSheaf_27 : decode mX0_hasTheSheaf.2.1 27 = .ok (.if_icmp .ge 14, 3) := by decide +kernel
theorem dX0_hasTheSheaf_30 : decode mX0_hasTheSheaf.2.1 30 = .ok (.aload_n 0, 1) := by decide +kernel
theorem dX0_hasTheSheaf_31 : decode mX0_hasTheSheaf.2.1 31 = .ok (.iconst 2, 1) := by decide +kernel
theorem dX0_hasTheSheaf_32 : decode mX0_hasTheSheaf.2.1 32 = .ok (.aload_n 0, 1) := by decide +kernel
theorem dX0_hasTheSheaf_33 : decode mX0_hasTheSheaf.2.1 33 = .ok (.getfield 15, 3) := by decide +kernel
theorem dX0_hasTheSheaf_36 : decode mX0_hasTheSheaf.2.1 36 = .ok (.iconst 1, 1) := by decide +kernel
theorem dX0_hasTheSheaf_37 : decode mX0_hasTheSheaf.2.1 37 = .ok (.iadd, 1) := by decide +kernel
theorem dX0_hasTheSheaf_38 : decode mX0_hasTheSheaf.2.1 38 = .ok (.invokevirtual 66, 3) := by decide +kernel
theorem dX0_hasTheSheaf_41 : decode mX0_hasTheSheaf.2.1 41 = .ok (.return_, 1) := by decide +kernel
theorem dX0_losesHand_0 : decode mX0_losesHand.2.1 0 = .ok (.aload_n 0, 1) := by decide +kernel
theorem dX0_losesHand_1 : decode mX0_losesHand.2.1 1 = .ok (.getfield 15, 3) := by decide +kernel
theorem dX0_losesHand_4 : decode mX0_losesHand.2.1 4 = .ok (.getstatic 25, 3) := by decide +kernel
theorem dX0_losesHand_7 : decode mX0_losesHand.2.1 7 = .ok (.iconst 2, 1) := by decide +kernel
theorem dX0_losesHand_8 : decode mX0_losesHand.2.1 8 = .ok (.iaload, 1) := by decide +kernel
theorem dX0_losesHand_9 : decode mX0_losesHand.2.1 9 = .ok (.if_icmp .le 14, 3) := by decide +kernel
theorem dX0_losesHand_12 : decode mX0_losesHand.2.1 12 = .ok (.aload_n 0, 1) := by decide +kernel
theorem dX0_losesHand_13 : decode mX0_losesHand.2.1 13 = .ok (.iconst 2, 1) := by decide +kernel
theorem dX0_losesHand_14 : decode mX0_losesHand.2.1 14 = .ok (.aload_n 0, 1) := by decide +kernel
theorem dX0_losesHand_15 : decode mX0_losesHand.2.1 15 = .ok (.getfield 15, 3) := by decide +kernel
theorem dX0_losesHand_18 : decode mX0_losesHand.2.1 18 = .ok (.iconst 1, 1) := by decide +kernel
theorem dX0_losesHand_19 : decode mX0_losesHand.2.1 19 = .ok (.isub, 1) := by decide +kernel
theorem dX0_losesHand_20 : decode mX0_losesHand.2.1 20 = .ok (.invokevirtual 66, 3) := by decide +kernel
theorem dX0_losesHand_23 : decode mX0_losesHand.2.1 23 = .ok (.return_, 1) := by decide +kernel
theorem dX0_heeds_0 : decode mX0_heeds.2.1 0 = .ok (.iload_n 1, 1) := by decide +kernel
theorem dX0_heeds_1 : decode mX0_heeds.2.1 1 = .ok (.ifCond .le 24, 3) := by decide +kernel
theorem dX0_heeds_4 : decode mX0_heeds.2.1 4 = .ok (.aload_n 0, 1) := by decide +kernel
theorem dX0_heeds_5 : decode mX0_heeds.2.1 5 = .ok (.getstatic 29, 3) := by decide +kernel
theorem dX0_heeds_8 : decode mX0_heeds.2.1 8 = .ok (.iconst 3, 1) := by decide +kernel
theorem dX0_heeds_9 : decode mX0_heeds.2.1 9 = .ok (.iaload, 1) := by decide +kernel
theorem dX0_heeds_10 : decode mX0_heeds.2.1 10 = .ok (.aload_n 0, 1) := by decide +kernel
theorem dX0_heeds_11 : decode mX0_heeds.2.1 11 = .ok (.getfield 35, 3) := by decide +kernel
theorem dX0_heeds_14 : decode mX0_heeds.2.1 14 = .ok (.iconst 1, 1) := by decide +kernel
theorem dX0_heeds_15 : decode mX0_heeds.2.1 15 = .ok (.iadd, 1) := by decide +kernel
theorem dX0_heeds_16 : decode mX0_heeds.2.1 16 = .ok (.invokestatic 63, 3) := by decide +kernel
theorem dX0_heeds_19 : decode mX0_heeds.2.1 19 = .ok (.putfield 35, 3) := by decide +kernel
theorem dX0_heeds_22 : decode mX0_heeds.2.1 22 = .ok (.goto 25, 3) := by decide +kernel
theorem dX0_heeds_25 : decode mX0_heeds.2.1 25 = .ok (.iload_n 1, 1) := by decide +kernel
theorem dX0_heeds_26 : decode mX0_heeds.2.1 26 = .ok (.ifCond .ge 21, 3) := by decide +kernel
theorem dX0_heeds_29 : decode mX0_heeds.2.1 29 = .ok (.aload_n 0, 1) := by decide +kernel
theorem dX0_heeds_30 : decode mX0_heeds.2.1 30 = .ok (.getstatic 25, 3) := by decide +kernel
theorem dX0_heeds_33 : decode mX0_heeds.2.1 33 = .ok (.iconst 3, 1) := by decide +kernel
theorem dX0_heeds_34 : decode mX0_heeds.2.1 34 = .ok (.iaload, 1) := by decide +kernel
theorem dX0_heeds_35 : decode mX0_heeds.2.1 35 = .ok (.aload_n 0, 1) := by decide +kernel
theorem dX0_heeds_36 : decode mX0_heeds.2.1 36 = .ok (.getfield 35, 3) := by decide +kernel
theorem dX0_heeds_39 : decode mX0_heeds.2.1 39 = .ok (.iconst 1, 1) := by decide +kernel
theorem dX0_heeds_40 : decode mX0_heeds.2.1 40 = .ok (.isub, 1) := by decide +kernel
theorem dX0_heeds_41 : decode mX0_heeds.2.1 41 = .ok (.invokestatic 47, 3) := by decide +kernel
theorem dX0_heeds_44 : decode mX0_heeds.2.1 44 = .ok (.putfield 35, 3) := by decide +kernel
theorem dX0_heeds_47 : decode mX0_heeds.2.1 47 = .ok (.return_, 1) := by decide +kernel
theorem dX1_becomes_0 : decode mX1_becomes.2.1 0 = .ok (.aload_n 1, 1) := by decide +kernel
theorem dX1_becomes_1 : decode mX1_becomes.2.1 1 = .ok (.getfield 9, 3) := by decide +kernel
theorem dX1_becomes_4 : decode mX1_becomes.2.1 4 = .ok (.iconst 0, 1) := by decide +kernel
theorem dX1_becomes_5 : decode mX1_becomes.2.1 5 = .ok (.aload_n 0, 1) := by decide +kernel
theorem dX1_becomes_6 : decode mX1_becomes.2.1 6 = .ok (.getfield 9, 3) := by decide +kernel
theorem dX1_becomes_9 : decode mX1_becomes.2.1 9 = .ok (.iconst 0, 1) := by decide +kernel
theorem dX1_becomes_10 : decode mX1_becomes.2.1 10 = .ok (.iconst 3, 1) := by decide +kernel
theorem dX1_becomes_11 : decode mX1_becomes.2.1 11 = .ok (.invokestatic 29, 3) := by decide +kernel
theorem dX1_becomes_14 : decode mX1_becomes.2.1 14 = .ok (.aload_n 1, 1) := by decide +kernel
theorem dX1_becomes_15 : decode mX1_becomes.2.1 15 = .ok (.getfield 22, 3) := by decide +kernel
theorem dX1_becomes_18 : decode mX1_becomes.2.1 18 = .ok (.iconst 0, 1) := by decide +kernel
theorem dX1_becomes_19 : decode mX1_becomes.2.1 19 = .ok (.aload_n 0, 1) := by decide +kernel
theorem dX1_becomes_20 : decode mX1_becomes.2.1 20 = .ok (.getfield 22, 3) := by decide +kernel
theorem dX1_becomes_23 : decode mX1_becomes.2.1 23 = .ok (.iconst 0, 1) := by decide +kernel
theorem dX1_becomes_24 : decode mX1_becomes.2.1 24 = .ok (.bipush 10, 2) := by decide +kernel
theorem dX1_becomes_26 : decode mX1_becomes.2.1 26 = .ok (.invokestatic 29, 3) := by decide +kernel
theorem dX1_becomes_29 : decode mX1_becomes.2.1 29 = .ok (.iconst 0, 1) := by decide +kernel
theorem dX1_becomes_30 : decode mX1_becomes.2.1 30 = .ok (.istore_n 2, 1) := by decide +kernel
theorem dX1_becomes_31 : decode mX1_becomes.2.1 31 = .ok (.iload_n 2, 1) := by decide +kernel
theorem dX1_becomes_32 : decode mX1_becomes.2.1 32 = .ok (.aload_n 1, 1) := by decide +kernel
theorem dX1_becomes_33 : decode mX1_becomes.2.1 33 = .ok (.getfield 35, 3) := by decide +kernel
theorem dX1_becomes_36 : decode mX1_becomes.2.1 36 = .ok (.if_icmp .ge 24, 3) := by decide +kernel
theorem dX1_becomes_39 : decode mX1_becomes.2.1 39 = .ok (.aload_n 0, 1) := by decide +kernel
theorem dX1_becomes_40 : decode mX1_becomes.2.1 40 = .ok (.getfield 17, 3) := by decide +kernel
theorem dX1_becomes_43 : decode mX1_becomes.2.1 43 = .ok (.iload_n 2, 1) := by decide +kernel
theorem dX1_becomes_44 : decode mX1_becomes.2.1 44 = .ok (.aaload, 1) := by decide +kernel
theorem dX1_becomes_45 : decode mX1_becomes.2.1 45 = .ok (.aload_n 1, 1) := by decide +kernel
theorem dX1_becomes_46 : decode mX1_becomes.2.1 46 = .ok (.getfield 17, 3) := by decide +kernel
theorem dX1_becomes_49 : decode mX1_becomes.2.1 49 = .ok (.iload_n 2, 1) := by decide +kernel
theorem dX1_becomes_50 : decode mX1_becomes.2.1 50 = .ok (.aaload, 1) := by decide +kernel
theorem dX1_becomes_51 : decode mX1_becomes.2.1 51 = .ok (.invokevirtual 38, 3) := by decide +kernel
theorem dX1_becomes_54 : decode mX1_becomes.2.1 54 = .ok (.iinc 2 1, 3) := by decide +kernel
theorem dX1_becomes_57 : decode mX1_becomes.2.1 57 = .ok (.goto (-26), 3) := by decide +kernel
theorem dX1_becomes_60 : decode mX1_becomes.2.1 60 = .ok (.aload_n 0, 1) := by decide +kernel
theorem dX1_becomes_61 : decode mX1_becomes.2.1 61 = .ok (.aload_n 1, 1) := by decide +kernel
theorem dX1_becomes_62 : decode mX1_becomes.2.1 62 = .ok (.getfield 35, 3) := by decide +kernel
theorem dX1_becomes_65 : decode mX1_becomes.2.1 65 = .ok (.putfield 35, 3) := by decide +kernel
theorem dX1_becomes_68 : decode mX1_becomes.2.1 68 = .ok (.aload_n 0, 1) := by decide +kernel
theorem dX1_becomes_69 : decode mX1_becomes.2.1 69 = .ok (.aload_n 1, 1) := by decide +kernel
theorem dX1_becomes_70 : decode mX1_becomes.2.1 70 = .ok (.getfield 42, 3) := by decide +kernel
theorem dX1_becomes_73 : decode mX1_becomes.2.1 73 = .ok (.putfield 42, 3) := by decide +kernel
theorem dX1_becomes_76 : decode mX1_becomes.2.1 76 = .ok (.aload_n 0, 1) := by decide +kernel
theorem dX1_becomes_77 : decode mX1_becomes.2.1 77 = .ok (.aload_n 1, 1) := by decide +kernel
theorem dX1_becomes_78 : decode mX1_becomes.2.1 78 = .ok (.getfield 25, 3) := by decide +kernel
theorem dX1_becomes_81 : decode mX1_becomes.2.1 81 = .ok (.putfield 25, 3) := by decide +kernel
theorem dX1_becomes_84 : decode mX1_becomes.2.1 84 = .ok (.return_, 1) := by decide +kernel
theorem dX1_hasFarm_0 : decode mX1_hasFarm.2.1 0 = .ok (.iload_n 1, 1) := by decide +kernel
theorem dX1_hasFarm_1 : decode mX1_hasFarm.2.1 1 = .ok (.iconst 0, 1) := by decide +kernel
theorem dX1_hasFarm_2 : decode mX1_hasFarm.2.1 2 = .ok (.aload_n 0, 1) := by decide +kernel
theorem dX1_hasFarm_3 : decode mX1_hasFarm.2.1 3 = .ok (.getfield 35, 3) := by decide +kernel
theorem dX1_hasFarm_6 : decode mX1_hasFarm.2.1 6 = .ok (.iconst 1, 1) := by decide +kernel
theorem dX1_hasFarm_7 : decode mX1_hasFarm.2.1 7 = .ok (.isub, 1) := by decide +kernel
theorem dX1_hasFarm_8 : decode mX1_hasFarm.2.1 8 = .ok (.invokestatic 45, 3) := by decide +kernel
theorem dX1_hasFarm_11 : decode mX1_hasFarm.2.1 11 = .ok (.ireturn, 1) := by decide +kernel
theorem dX1_isFull_0 : decode mX1_isFull.2.1 0 = .ok (.aload_n 0, 1) := by decide +kernel
theorem dX1_isFull_1 : decode mX1_isFull.2.1 1 = .ok (.getfield 35, 3) := by decide +kernel
theorem dX1_isFull_4 : decode mX1_isFull.2.1 4 = .ok (.bipush 8, 2) := by decide +kernel
theorem dX1_isFull_6 : decode mX1_isFull.2.1 6 = .ok (.if_icmp .lt 7, 3) := by decide +kernel
theorem dX1_isFull_9 : decode mX1_isFull.2.1 9 = .ok (.iconst 1, 1) := by decide +kernel
theorem dX1_isFull_10 : decode mX1_isFull.2.1 10 = .ok (.goto 4, 3) := by decide +kernel
theorem dX1_isFull_13 : decode mX1_isFull.2.1 13 = .ok (.iconst 0, 1) := by decide +kernel
theorem dX1_isFull_14 : decode mX1_isFull.2.1 14 = .ok (.ireturn, 1) := by decide +kernel
theorem dX1_addFarm_0 : decode mX1_addFarm.2.1 0 = .ok (.aload_n 0, 1) := by decide +kernel
theorem dX1_addFarm_1 : decode mX1_addFarm.2.1 1 = .ok (.getfield 35, 3) := by decide +kernel
theorem dX1_addFarm_4 : decode mX1_addFarm.2.1 4 = .ok (.istore_n 3, 1) := by decide +kernel
theorem dX1_addFarm_5 : decode mX1_addFarm.2.1 5 = .ok (.aload_n 0, 1) := by decide +kernel
theorem dX1_addFarm_6 : decode mX1_addFarm.2.1 6 = .ok (.getfield 17, 3) := by decide +kernel
theorem dX1_addFarm_9 : decode mX1_addFarm.2.1 9 = .ok (.iload_n 3, 1) := by decide +kernel
theorem dX1_addFarm_10 : decode mX1_addFarm.2.1 10 = .ok (.aaload, 1) := by decide +kernel
theorem dX1_addFarm_11 : decode mX1_addFarm.2.1 11 = .ok (.iload_n 1, 1) := by decide +kernel
theorem dX1_addFarm_12 : decode mX1_addFarm.2.1 12 = .ok (.iload_n 2, 1) := by decide +kernel
theorem dX1_addFarm_13 : decode mX1_addFarm.2.1 13 = .ok (.invokevirtual 49, 3) := by decide +kernel
theorem dX1_addFarm_16 : decode mX1_addFarm.2.1 16 = .ok (.aload_n 0, 1) := by decide +kernel
theorem dX1_addFarm_17 : decode mX1_addFarm.2.1 17 = .ok (.dup, 1) := by decide +kernel
theorem dX1_addFarm_18 : decode mX1_addFarm.2.1 18 = .ok (.getfield 35, 3) := by decide +kernel
theorem dX1_addFarm_21 : decode mX1_addFarm.2.1 21 = .ok (.iconst 1, 1) := by decide +kernel
theorem dX1_addFarm_22 : decode mX1_addFarm.2.1 22 = .ok (.iadd, 1) := by decide +kernel
theorem dX1_addFarm_23 : decode mX1_addFarm.2.1 23 = .ok (.putfield 35, 3) := by decide +kernel
theorem dX1_addFarm_26 : decode mX1_addFarm.2.1 26 = .ok (.iload_n 3, 1) := by decide +kernel
theorem dX1_addFarm_27 : decode mX1_addFarm.2.1 27 = .ok (.ireturn, 1) := by decide +kernel
theorem dX1_mostDays_0 : decode mX1_mostDays.2.1 0 = .ok (.iconst 0, 1) := by decide +kernel
theorem dX1_mostDays_1 : decode mX1_mostDays.2.1 1 = .ok (.istore_n 1, 1) := by decide +kernel
theorem dX1_mostDays_2 : decode mX1_mostDays.2.1 2 = .ok (.iconst 0, 1) := by decide +kernel
theorem dX1_mostDays_3 : decode mX1_mostDays.2.1 3 = .ok (.istore_n 2, 1) := by decide +kernel
theorem dX1_mostDays_4 : decode mX1_mostDays.2.1 4 = .ok (.iload_n 2, 1) := by decide +kernel
theorem dX1_mostDays_5 : decode mX1_mostDays.2.1 5 = .ok (.aload_n 0, 1) := by decide +kernel
theorem dX1_mostDays_6 : decode mX1_mostDays.2.1 6 = .ok (.getfield 35, 3) := by decide +kernel
theorem dX1_mostDays_9 : decode mX1_mostDays.2.1 9 = .ok (.if_icmp .ge 29, 3) := by decide +kernel
theorem dX1_mostDays_12 : decode mX1_mostDays.2.1 12 = .ok (.iload_n 1, 1) := by decide +kernel
theorem dX1_mostDays_13 : decode mX1_mostDays.2.1 13 = .ok (.aload_n 0, 1) := by decide +kernel
theorem dX1_mostDays_14 : decode mX1_mostDays.2.1 14 = .ok (.getfield 17, 3) := by decide +kernel
theorem dX1_mostDays_17 : decode mX1_mostDays.2.1 17 = .ok (.iload_n 2, 1) := by decide +kernel
theorem dX1_mostDays_18 : decode mX1_mostDays.2.1 18 = .ok (.aaload, 1) := by decide +kernel
theorem dX1_mostDays_19 : decode mX1_mostDays.2.1 19 = .ok (.aload_n 0, 1) := by decide +kernel
theorem dX1_mostDays_20 : decode mX1_mostDays.2.1 20 = .ok (.getfield 9, 3) := by decide +kernel
theorem dX1_mostDays_23 : decode mX1_mostDays.2.1 23 = .ok (.iconst 0, 1) := by decide +kernel
theorem dX1_mostDays_24 : decode mX1_mostDays.2.1 24 = .ok (.iaload, 1) := by decide +kernel
theorem dX1_mostDays_25 : decode mX1_mostDays.2.1 25 = .ok (.invokevirtual 53, 3) := by decide +kernel
theorem dX1_mostDays_28 : decode mX1_mostDays.2.1 28 = .ok (.invokestatic 57, 3) := by decide +kernel
theorem dX1_mostDays_31 : decode mX1_mostDays.2.1 31 = .ok (.istore_n 1, 1) := by decide +kernel
theorem dX1_mostDays_32 : decode mX1_mostDays.2.1 32 = .ok (.iinc 2 1, 3) := by decide +kernel
theorem dX1_mostDays_35 : decode mX1_mostDays.2.1 35 = .ok (.goto (-31), 3) := by decide +kernel
theorem dX1_mostDays_38 : decode mX1_mostDays.2.1 38 = .ok (.iload_n 1, 1) := by decide +kernel
theorem dX1_mostDays_39 : decode mX1_mostDays.2.1 39 = .ok (.ireturn, 1) := by decide +kernel
theorem dX1_latest_0 : decode mX1_latest.2.1 0 = .ok (.aload_n 0, 1) := by decide +kernel
theorem dX1_latest_1 : decode mX1_latest.2.1 1 = .ok (.ldc 63, 2) := by decide +kernel
theorem dX1_latest_3 : decode mX1_latest.2.1 3 = .ok (.invokevirtual 64, 3) := by decide +kernel
theorem dX1_latest_6 : decode mX1_latest.2.1 6 = .ok (.ireturn, 1) := by decide +kernel
theorem dX1_latestBelow_0 : decode mX1_latestBelow.2.1 0 = .ok (.iconst 0, 1) := by decide +kernel
theorem dX1_latestBelow_1 : decode mX1_latestBelow.2.1 1 = .ok (.istore_n 2, 1) := by decide +kernel
theorem dX1_latestBelow_2 : decode mX1_latestBelow.2.1 2 = .ok (.iconst 0, 1) := by decide +kernel
theorem dX1_latestBelow_3 : decode mX1_latestBelow.2.1 3 = .ok (.istore_n 3, 1) := by decide +kernel
theorem dX1_latestBelow_4 : decode mX1_latestBelow.2.1 4 = .ok (.iconst 0, 1) := by decide +kernel
theorem dX1_latestBelow_5 : decode mX1_latestBelow.2.1 5 = .ok (.istore 4, 2) := by decide +kernel
theorem dX1_latestBelow_7 : decode mX1_latestBelow.2.1 7 = .ok (.iload 4, 2) := by decide +kernel
theorem dX1_latestBelow_9 : decode mX1_latestBelow.2.1 9 = .ok (.aload_n 0, 1) := by decide +kernel
theorem dX1_latestBelow_10 : decode mX1_latestBelow.2.1 10 = .ok (.getfield 35, 3) := by decide +kernel
theorem dX1_latestBelow_13 : decode mX1_latestBelow.2.1 13 = .ok (.if_icmp .ge 65, 3) := by decide +kernel
theorem dX1_latestBelow_16 : decode mX1_latestBelow.2.1 16 = .ok (.aload_n 0, 1) := by decide +kernel
theorem dX1_latestBelow_17 : decode mX1_latestBelow.2.1 17 = .ok (.getfield 17, 3) := by decide +kernel
theorem dX1_latestBelow_20 : decode mX1_latestBelow.2.1 20 = .ok (.iload 4, 2) := by decide +kernel
theorem dX1_latestBelow_22 : decode mX1_latestBelow.2.1 22 = .ok (.aaload, 1) := by decide +kernel
theorem dX1_latestBelow_23 : decode mX1_latestBelow.2.1 23 = .ok (.aload_n 0, 1) := by decide +kernel
theorem dX1_latestBelow_24 : decode mX1_latestBelow.2.1 24 = .ok (.getfield 9, 3) := by decide +kernel
theorem dX1_latestBelow_27 : decode mX1_latestBelow.2.1 27 = .ok (.iconst 0, 1) := by decide +kernel
theorem dX1_latestBelow_28 : decode mX1_latestBelow.2.1 28 = .ok (.iaload, 1) := by decide +kernel
theorem dX1_latestBelow_29 : decode mX1_latestBelow.2.1 29 = .ok (.invokevirtual 53, 3) := by decide +kernel
theorem dX1_latestBelow_32 : decode mX1_latestBelow.2.1 32 = .ok (.istore 5, 2) := by decide +kernel
theorem dX1_latestBelow_34 : decode mX1_latestBelow.2.1 34 = .ok (.iload 5, 2) := by decide +kernel
theorem dX1_latestBelow_36 : decode mX1_latestBelow.2.1 36 = .ok (.iload_n 1, 1) := by decide +kernel
theorem dX1_latestBelow_37 : decode mX1_latestBelow.2.1 37 = .ok (.if_icmp .ge 35, 3) := by decide +kernel
theorem dX1_latestBelow_40 : decode mX1_latestBelow.2.1 40 = .ok (.iload 5, 2) := by decide +kernel
theorem dX1_latestBelow_42 : decode mX1_latestBelow.2.1 42 = .ok (.iload_n 3, 1) := by decide +kernel
theorem dX1_latestBelow_43 : decode mX1_latestBelow.2.1 43 = .ok (.if_icmp .ge 6, 3) := by decide +kernel
theorem dX1_latestBelow_46 : decode mX1_latestBelow.2.1 46 = .ok (.goto 26, 3) := by decide +kernel
theorem dX1_latestBelow_49 : decode mX1_latestBelow.2.1 49 = .ok (.iload 5, 2) := by decide +kernel
theorem dX1_latestBelow_51 : decode mX1_latestBelow.2.1 51 = .ok (.iload_n 3, 1) := by decide +kernel
theorem dX1_latestBelow_52 : decode mX1_latestBelow.2.1 52 = .ok (.if_icmp .le 10, 3) := by decide +kernel
theorem dX1_latestBelow_55 : decode mX1_latestBelow.2.1 55 = .ok (.iconst 1, 1) := by decide +kernel
theorem dX1_latestBelow_56 : decode mX1_latestBelow.2.1 56 = .ok (.iload 4, 2) := by decide +kernel
theorem dX1_latestBelow_58 : decode mX1_latestBelow.2.1 58 = .ok (.ishl, 1) := by decide +kernel
theorem dX1_latestBelow_59 : decode mX1_latestBelow.2.1 59 = .ok (.goto 9, 3) := by decide +kernel
theorem dX1_latestBelow_62 : decode mX1_latestBelow.2.1 62 = .ok (.iload_n 2, 1) := by decide +kernel
theorem dX1_latestBelow_63 : decode mX1_latestBelow.2.1 63 = .ok (.iconst 1, 1) := by decide +kernel
theorem dX1_latestBelow_64 : decode mX1_latestBelow.2.1 64 = .ok (.iload 4, 2) := by decide +kernel
theorem dX1_latestBelow_66 : decode mX1_latestBelow.2.1 66 = .ok (.ishl, 1) := by decide +kernel
theorem dX1_latestBelow_67 : decode mX1_latestBelow.2.1 67 = .ok (.ior, 1) := by decide +kernel
theorem dX1_latestBelow_68 : decode mX1_latestBelow.2.1 68 = .ok (.istore_n 2, 1) := by decide +kernel
theorem dX1_latestBelow_69 : decode mX1_latestBelow.2.1 69 = .ok (.iload 5, 2) := by decide +kernel
theorem dX1_latestBelow_71 : decode mX1_latestBelow.2.1 71 = .ok (.istore_n 3, 1) := by decide +kernel
theorem dX1_latestBelow_72 : decode mX1_latestBelow.2.1 72 = .ok (.iinc 4 1, 3) := by decide +kernel
theorem dX1_latestBelow_75 : decode mX1_latestBelow.2.1 75 = .ok (.goto (-68), 3) := by decide +kernel
theorem dX1_latestBelow_78 : decode mX1_latestBelow.2.1 78 = .ok (.iload_n 2, 1) := by decide +kernel
theorem dX1_latestBelow_79 : decode mX1_latestBelow.2.1 79 = .ok (.ireturn, 1) := by decide +kernel
theorem dX1_earliest_0 : decode mX1_earliest.2.1 0 = .ok (.iconst 0, 1) := by decide +kernel
theorem dX1_earliest_1 : decode mX1_earliest.2.1 1 = .ok (.istore_n 1, 1) := by decide +kernel
theorem dX1_earliest_2 : decode mX1_earliest.2.1 2 = .ok (.ldc 63, 2) := by decide +kernel
theorem dX1_earliest_4 : decode mX1_earliest.2.1 4 = .ok (.istore_n 2, 1) := by decide +kernel
theorem dX1_earliest_5 : decode mX1_earliest.2.1 5 = .ok (.iconst 0, 1) := by decide +kernel
theorem dX1_earliest_6 : decode mX1_earliest.2.1 6 = .ok (.istore_n 3, 1) := by decide +kernel
theorem dX1_earliest_7 : decode mX1_earliest.2.1 7 = .ok (.iload_n 3, 1) := by decide +kernel
theorem dX1_earliest_8 : decode mX1_earliest.2.1 8 = .ok (.aload_n 0, 1) := by decide +kernel
theorem dX1_earliest_9 : decode mX1_earliest.2.1 9 = .ok (.getfield 35, 3) := by decide +kernel
theorem dX1_earliest_12 : decode mX1_earliest.2.1 12 = .ok (.if_icmp .ge 56, 3) := by decide +kernel
theorem dX1_earliest_15 : decode mX1_earliest.2.1 15 = .ok (.aload_n 0, 1) := by decide +kernel
theorem dX1_earliest_16 : decode mX1_earliest.2.1 16 = .ok (.getfield 17, 3) := by decide +kernel
theorem dX1_earliest_19 : decode mX1_earliest.2.1 19 = .ok (.iload_n 3, 1) := by decide +kernel
theorem dX1_earliest_20 : decode mX1_earliest.2.1 20 = .ok (.aaload, 1) := by decide +kernel
theorem dX1_earliest_21 : decode mX1_earliest.2.1 21 = .ok (.aload_n 0, 1) := by decide +kernel
theorem dX1_earliest_22 : decode mX1_earliest.2.1 22 = .ok (.getfield 9, 3) := by decide +kernel
theorem dX1_earliest_25 : decode mX1_earliest.2.1 25 = .ok (.iconst 0, 1) := by decide +kernel
theorem dX1_earliest_26 : decode mX1_earliest.2.1 26 = .ok (.iaload, 1) := by decide +kernel
theorem dX1_earliest_27 : decode mX1_earliest.2.1 27 = .ok (.invokevirtual 53, 3) := by decide +kernel
theorem dX1_earliest_30 : decode mX1_earliest.2.1 30 = .ok (.istore 4, 2) := by decide +kernel
theorem dX1_earliest_32 : decode mX1_earliest.2.1 32 = .ok (.iload 4, 2) := by decide +kernel
theorem dX1_earliest_34 : decode mX1_earliest.2.1 34 = .ok (.iload_n 2, 1) := by decide +kernel
theorem dX1_earliest_35 : decode mX1_earliest.2.1 35 = .ok (.if_icmp .le 6, 3) := by decide +kernel
theorem dX1_earliest_38 : decode mX1_earliest.2.1 38 = .ok (.goto 24, 3) := by decide +kernel
theorem dX1_earliest_41 : decode mX1_earliest.2.1 41 = .ok (.iload 4, 2) := by decide +kernel
theorem dX1_earliest_43 : decode mX1_earliest.2.1 43 = .ok (.iload_n 2, 1) := by decide +kernel
theorem dX1_earliest_44 : decode mX1_earliest.2.1 44 = .ok (.if_icmp .ge 9, 3) := by decide +kernel
theorem dX1_earliest_47 : decode mX1_earliest.2.1 47 = .ok (.iconst 1, 1) := by decide +kernel
theorem dX1_earliest_48 : decode mX1_earliest.2.1 48 = .ok (.iload_n 3, 1) := by decide +kernel
theorem dX1_earliest_49 : decode mX1_earliest.2.1 49 = .ok (.ishl, 1) := by decide +kernel
theorem dX1_earliest_50 : decode mX1_earliest.2.1 50 = .ok (.goto 8, 3) := by decide +kernel
theorem dX1_earliest_53 : decode mX1_earliest.2.1 53 = .ok (.iload_n 1, 1) := by decide +kernel
theorem dX1_earliest_54 : decode mX1_earliest.2.1 54 = .ok (.iconst 1, 1) := by decide +kernel
theorem dX1_earliest_55 : decode mX1_earliest.2.1 55 = .ok (.iload_n 3, 1) := by decide +kernel
theorem dX1_earliest_56 : decode mX1_earliest.2.1 56 = .ok (.ishl, 1) := by decide +kernel
theorem dX1_earliest_57 : decode mX1_earliest.2.1 57 = .ok (.ior, 1) := by decide +kernel
theorem dX1_earliest_58 : decode mX1_earliest.2.1 58 = .ok (.istore_n 1, 1) := by decide +kernel
theorem dX1_earliest_59 : decode mX1_earliest.2.1 59 = .ok (.iload 4, 2) := by decide +kernel
theorem dX1_earliest_61 : decode mX1_earliest.2.1 61 = .ok (.istore_n 2, 1) := by decide +kernel
theorem dX1_earliest_62 : decode mX1_earliest.2.1 62 = .ok (.iinc 3 1, 3) := by decide +kernel
theorem dX1_earliest_65 : decode mX1_earliest.2.1 65 = .ok (.goto (-58), 3) := by decide +kernel
theorem dX1_earliest_68 : decode mX1_earliest.2.1 68 = .ok (.iload_n 1, 1) := by decide +kernel
theorem dX1_earliest_69 : decode mX1_earliest.2.1 69 = .ok (.ireturn, 1) := by decide +kernel
theorem dX1_isLatest_0 : decode mX1_isLatest.2.1 0 = .ok (.aload_n 0, 1) := by decide +kernel
theorem dX1_isLatest_1 : decode mX1_isLatest.2.1 1 = .ok (.ldc 63, 2) := by decide +kernel
theorem dX1_isLatest_3 : decode mX1_isLatest.2.1 3 = .ok (.invokevirtual 64, 3) := by decide +kernel
theorem dX1_isLatest_6 : decode mX1_isLatest.2.1 6 = .ok (.iload_n 1, 1) := by decide +kernel
theorem dX1_isLatest_7 : decode mX1_isLatest.2.1 7 = .ok (.invokestatic 67, 3) := by decide +kernel
theorem dX1_isLatest_10 : decode mX1_isLatest.2.1 10 = .ok (.ireturn, 1) := by decide +kernel
theorem dX1_leanNow_0 : decode mX1_leanNow.2.1 0 = .ok (.aload_n 0, 1) := by decide +kernel
theorem dX1_leanNow_1 : decode mX1_leanNow.2.1 1 = .ok (.aload_n 0, 1) := by decide +kernel
theorem dX1_leanNow_2 : decode mX1_leanNow.2.1 2 = .ok (.ldc 63, 2) := by decide +kernel
theorem dX1_leanNow_4 : decode mX1_leanNow.2.1 4 = .ok (.invokevirtual 64, 3) := by decide +kernel
theorem dX1_leanNow_7 : decode mX1_leanNow.2.1 7 = .ok (.invokevirtual 71, 3) := by decide +kernel
theorem dX1_leanNow_10 : decode mX1_leanNow.2.1 10 = .ok (.ireturn, 1) := by decide +kernel
theorem dX1_leanBy_0 : decode mX1_leanBy.2.1 0 = .ok (.iconst 0, 1) := by decide +kernel
theorem dX1_leanBy_1 : decode mX1_leanBy.2.1 1 = .ok (.istore_n 2, 1) := by decide +kernel
theorem dX1_leanBy_2 : decode mX1_leanBy.2.1 2 = .ok (.iconst 0, 1) := by decide +kernel
theorem dX1_leanBy_3 : decode mX1_leanBy.2.1 3 = .ok (.istore_n 3, 1) := by decide +kernel
theorem dX1_leanBy_4 : decode mX1_leanBy.2.1 4 = .ok (.iload_n 3, 1) := by decide +kernel
theorem dX1_leanBy_5 : decode mX1_leanBy.2.1 5 = .ok (.aload_n 0, 1) := by decide +kernel
theorem dX1_leanBy_6 : decode mX1_leanBy.2.1 6 = .ok (.getfield 35, 3) := by decide +kernel
theorem dX1_leanBy_9 : decode mX1_leanBy.2.1 9 = .ok (.if_icmp .ge 49, 3) := by decide +kernel
theorem dX1_leanBy_12 : decode mX1_leanBy.2.1 12 = .ok (.iload_n 1, 1) := by decide +kernel
theorem dX1_leanBy_13 : decode mX1_leanBy.2.1 13 = .ok (.iload_n 3, 1) := by decide +kernel
theorem dX1_leanBy_14 : decode mX1_leanBy.2.1 14 = .ok (.invokestatic 67, 3) := by decide +kernel
theorem dX1_leanBy_17 : decode mX1_leanBy.2.1 17 = .ok (.ifCond .eq 7, 3) := by decide +kernel
theorem dX1_leanBy_20 : decode mX1_leanBy.2.1 20 = .ok (.iconst 3, 1) := by decide +kernel
theorem dX1_leanBy_21 : decode mX1_leanBy.2.1 21 = .ok (.goto 4, 3) := by decide +kernel
theorem dX1_leanBy_24 : decode mX1_leanBy.2.1 24 = .ok (.iconst 1, 1) := by decide +kernel
theorem dX1_leanBy_25 : decode mX1_leanBy.2.1 25 = .ok (.istore 4, 2) := by decide +kernel
theorem dX1_leanBy_27 : decode mX1_leanBy.2.1 27 = .ok (.iload_n 2, 1) := by decide +kernel
theorem dX1_leanBy_28 : decode mX1_leanBy.2.1 28 = .ok (.iload 4, 2) := by decide +kernel
theorem dX1_leanBy_30 : decode mX1_leanBy.2.1 30 = .ok (.aload_n 0, 1) := by decide +kernel
theorem dX1_leanBy_31 : decode mX1_leanBy.2.1 31 = .ok (.getfield 17, 3) := by decide +kernel
theorem dX1_leanBy_34 : decode mX1_leanBy.2.1 34 = .ok (.iload_n 3, 1) := by decide +kernel
theorem dX1_leanBy_35 : decode mX1_leanBy.2.1 35 = .ok (.aaload, 1) := by decide +kernel
theorem dX1_leanBy_36 : decode mX1_leanBy.2.1 36 = .ok (.getfield 74, 3) := by decide +kernel
theorem dX1_leanBy_39 : decode mX1_leanBy.2.1 39 = .ok (.imul, 1) := by decide +kernel
theorem dX1_leanBy_40 : decode mX1_leanBy.2.1 40 = .ok (.aload_n 0, 1) := by decide +kernel
theorem dX1_leanBy_41 : decode mX1_leanBy.2.1 41 = .ok (.getfield 17, 3) := by decide +kernel
theorem dX1_leanBy_44 : decode mX1_leanBy.2.1 44 = .ok (.iload_n 3, 1) := by decide +kernel
theorem dX1_leanBy_45 : decode mX1_leanBy.2.1 45 = .ok (.aaload, 1) := by decide +kernel
theorem dX1_leanBy_46 : decode mX1_leanBy.2.1 46 = .ok (.invokevirtual 77, 3) := by decide +kernel
theorem dX1_leanBy_49 : decode mX1_leanBy.2.1 49 = .ok (.imul, 1) := by decide +kernel
theorem dX1_leanBy_50 : decode mX1_leanBy.2.1 50 = .ok (.iadd, 1) := by decide +kernel
theorem dX1_leanBy_51 : decode mX1_leanBy.2.1 51 = .ok (.istore_n 2, 1) := by decide +kernel
theorem dX1_leanBy_52 : decode mX1_leanBy.2.1 52 = .ok (.iinc 3 1, 3) := by decide +kernel
theorem dX1_leanBy_55 : decode mX1_leanBy.2.1 55 = .ok (.goto (-51), 3) := by decide +kernel
theorem dX1_leanBy_58 : decode mX1_leanBy.2.1 58 = .ok (.iconst 0, 1) := by decide +kernel
theorem dX1_leanBy_59 : decode mX1_leanBy.2.1 59 = .ok (.iload_n 2, 1) := by decide +kernel
theorem dX1_leanBy_60 : decode mX1_leanBy.2.1 60 = .ok (.invokestatic 81, 3) := by decide +kernel
theorem dX1_leanBy_63 : decode mX1_leanBy.2.1 63 = .ok (.aload_n 0, 1) := by decide +kernel
theorem dX1_leanBy_64 : decode mX1_leanBy.2.1 64 = .ok (.getfield 9, 3) := by decide +kernel
theorem dX1_leanBy_67 : decode mX1_leanBy.2.1 67 = .ok (.iconst 1, 1) := by decide +kernel
theorem dX1_leanBy_68 : decode mX1_leanBy.2.1 68 = .ok (.iaload, 1) := by decide +kernel
theorem dX1_leanBy_69 : decode mX1_leanBy.2.1 69 = .ok (.bipush 10, 2) := by decide +kernel
theorem dX1_leanBy_71 : decode mX1_leanBy.2.1 71 = .ok (.idiv, 1) := by decide +kernel
theorem dX1_leanBy_72 : decode mX1_leanBy.2.1 72 = .ok (.isub, 1) := by decide +kernel
theorem dX1_leanBy_73 : decode mX1_leanBy.2.1 73 = .ok (.invokestatic 57, 3) := by decide +kernel
theorem dX1_leanBy_76 : decode mX1_leanBy.2.1 76 = .ok (.istore_n 3, 1) := by decide +kernel
theorem dX1_leanBy_77 : decode mX1_leanBy.2.1 77 = .ok (.iload_n 2, 1) := by decide +kernel
theorem dX1_leanBy_78 : decode mX1_leanBy.2.1 78 = .ok (.ifCond .ge 8, 3) := by decide +kernel
theorem dX1_leanBy_81 : decode mX1_leanBy.2.1 81 = .ok (.iload_n 3, 1) := by decide +kernel
theorem dX1_leanBy_82 : decode mX1_leanBy.2.1 82 = .ok (.ineg, 1) := by decide +kernel
theorem dX1_leanBy_83 : decode mX1_leanBy.2.1 83 = .ok (.goto 4, 3) := by decide +kernel
theorem dX1_leanBy_86 : decode mX1_leanBy.2.1 86 = .ok (.iload_n 3, 1) := by decide +kernel
theorem dX1_leanBy_87 : decode mX1_leanBy.2.1 87 = .ok (.istore 4, 2) := by decide +kernel
theorem dX1_leanBy_89 : decode mX1_leanBy.2.1 89 = .ok (.aload_n 0, 1) := by decide +kernel
theorem dX1_leanBy_90 : decode mX1_leanBy.2.1 90 = .ok (.getfield 9, 3) := by decide +kernel
theorem dX1_leanBy_93 : decode mX1_leanBy.2.1 93 = .ok (.iconst 2, 1) := by decide +kernel
theorem dX1_leanBy_94 : decode mX1_leanBy.2.1 94 = .ok (.iaload, 1) := by decide +kernel
theorem dX1_leanBy_95 : decode mX1_leanBy.2.1 95 = .ok (.bipush 60, 2) := by decide +kernel
theorem dX1_leanBy_97 : decode mX1_leanBy.2.1 97 = .ok (.if_icmp .lt 9, 3) := by decide +kernel
theorem dX1_leanBy_100 : decode mX1_leanBy.2.1 100 = .ok (.iload 4, 2) := by decide +kernel
theorem dX1_leanBy_102 : decode mX1_leanBy.2.1 102 = .ok (.ineg, 1) := by decide +kernel
theorem dX1_leanBy_103 : decode mX1_leanBy.2.1 103 = .ok (.goto 5, 3) := by decide +kernel
theorem dX1_leanBy_106 : decode mX1_leanBy.2.1 106 = .ok (.iload 4, 2) := by decide +kernel
theorem dX1_leanBy_108 : decode mX1_leanBy.2.1 108 = .ok (.ireturn, 1) := by decide +kernel
theorem dX1_answerTo_0 : decode mX1_answerTo.2.1 0 = .ok (.aload_n 0, 1) := by decide +kernel
theorem dX1_answerTo_1 : decode mX1_answerTo.2.1 1 = .ok (.aload_n 0, 1) := by decide +kernel
theorem dX1_answerTo_2 : decode mX1_answerTo.2.1 2 = .ok (.ldc 63, 2) := by decide +kernel
theorem dX1_answerTo_4 : decode mX1_answerTo.2.1 4 = .ok (.invokevirtual 64, 3) := by decide +kernel
theorem dX1_answerTo_7 : decode mX1_answerTo.2.1 7 = .ok (.invokevirtual 71, 3) := by decide +kernel
theorem dX1_answerTo_10 : decode mX1_answerTo.2.1 10 = .ok (.iload_n 1, 1) := by decide +kernel
theorem dX1_answerTo_11 : decode mX1_answerTo.2.1 11 = .ok (.if_icmp .lt 7, 3) := by decide +kernel
theorem dX1_answerTo_14 : decode mX1_answerTo.2.1 14 = .ok (.iconst 1, 1) := by decide +kernel
theorem dX1_answerTo_15 : decode mX1_answerTo.2.1 15 = .ok (.goto 4, 3) := by decide +kernel
theorem dX1_answerTo_18 : decode mX1_answerTo.2.1 18 = .ok (.iconst 0, 1) := by decide +kernel
theorem dX1_answerTo_19 : decode mX1_answerTo.2.1 19 = .ok (.ireturn, 1) := by decide +kernel
theorem dX1_passYear_0 : decode mX1_passYear.2.1 0 = .ok (.aload_n 0, 1) := by decide +kernel
theorem dX1_passYear_1 : decode mX1_passYear.2.1 1 = .ok (.ldc 63, 2) := by decide +kernel
theorem dX1_passYear_3 : decode mX1_passYear.2.1 3 = .ok (.invokevirtual 64, 3) := by decide +kernel
theorem dX1_passYear_6 : decode mX1_passYear.2.1 6 = .ok (.istore_n 1, 1) := by decide +kernel
theorem dX1_passYear_7 : decode mX1_passYear.2.1 7 = .ok (.aload_n 0, 1) := by decide +kernel
theorem dX1_passYear_8 : decode mX1_passYear.2.1 8 = .ok (.invokevirtual 84, 3) := by decide +kernel
theorem dX1_passYear_11 : decode mX1_passYear.2.1 11 = .ok (.istore_n 2, 1) := by decide +kernel
theorem dX1_passYear_12 : decode mX1_passYear.2.1 12 = .ok (.aload_n 0, 1) := by decide +kernel
theorem dX1_passYear_13 : decode mX1_passYear.2.1 13 = .ok (.iload_n 1, 1) := by decide +kernel
theorem dX1_passYear_14 : decode mX1_passYear.2.1 14 = .ok (.invokevirtual 71, 3) := by decide +kernel
theorem dX1_passYear_17 : decode mX1_passYear.2.1 17 = .ok (.istore_n 3, 1) := by decide +kernel
theorem dX1_passYear_18 : decode mX1_passYear.2.1 18 = .ok (.iconst 0, 1) := by decide +kernel
theorem dX1_passYear_19 : decode mX1_passYear.2.1 19 = .ok (.istore 4, 2) := by decide +kernel
theorem dX1_passYear_21 : decode mX1_passYear.2.1 21 = .ok (.iload 4, 2) := by decide +kernel
theorem dX1_passYear_23 : decode mX1_passYear.2.1 23 = .ok (.aload_n 0, 1) := by decide +kernel
theorem dX1_passYear_24 : decode mX1_passYear.2.1 24 = .ok (.getfield 35, 3) := by decide +kernel
theorem dX1_passYear_27 : decode mX1_passYear.2.1 27 = .ok (.if_icmp .ge 55, 3) := by decide +kernel
theorem dX1_passYear_30 : decode mX1_passYear.2.1 30 = .ok (.aload_n 0, 1) := by decide +kernel
theorem dX1_passYear_31 : decode mX1_passYear.2.1 31 = .ok (.getfield 17, 3) := by decide +kernel
theorem dX1_passYear_34 : decode mX1_passYear.2.1 34 = .ok (.iload 4, 2) := by decide +kernel
theorem dX1_passYear_36 : decode mX1_passYear.2.1 36 = .ok (.aaload, 1) := by decide +kernel
theorem dX1_passYear_37 : decode mX1_passYear.2.1 37 = .ok (.astore 5, 2) := by decide +kernel
theorem dX1_passYear_39 : decode mX1_passYear.2.1 39 = .ok (.iload_n 1, 1) := by decide +kernel
theorem dX1_passYear_40 : decode mX1_passYear.2.1 40 = .ok (.iload 4, 2) := by decide +kernel
theorem dX1_passYear_42 : decode mX1_passYear.2.1 42 = .ok (.invokestatic 67, 3) := by decide +kernel
theorem dX1_passYear_45 : decode mX1_passYear.2.1 45 = .ok (.ifCond .eq 11, 3) := by decide +kernel
theorem dX1_passYear_48 : decode mX1_passYear.2.1 48 = .ok (.aload 5, 2) := by decide +kernel
theorem dX1_passYear_50 : decode mX1_passYear.2.1 50 = .ok (.invokevirtual 87, 3) := by decide +kernel
theorem dX1_passYear_53 : decode mX1_passYear.2.1 53 = .ok (.goto 23, 3) := by decide +kernel
theorem dX1_passYear_56 : decode mX1_passYear.2.1 56 = .ok (.iload_n 2, 1) := by decide +kernel
theorem dX1_passYear_57 : decode mX1_passYear.2.1 57 = .ok (.iload 4, 2) := by decide +kernel
theorem dX1_passYear_59 : decode mX1_passYear.2.1 59 = .ok (.invokestatic 67, 3) := by decide +kernel
theorem dX1_passYear_62 : decode mX1_passYear.2.1 62 = .ok (.ifCond .eq 8, 3) := by decide +kernel
theorem dX1_passYear_65 : decode mX1_passYear.2.1 65 = .ok (.aload 5, 2) := by decide +kernel
theorem dX1_passYear_67 : decode mX1_passYear.2.1 67 = .ok (.invokevirtual 90, 3) := by decide +kernel
theorem dX1_passYear_70 : decode mX1_passYear.2.1 70 = .ok (.aload 5, 2) := by decide +kernel
theorem dX1_passYear_72 : decode mX1_passYear.2.1 72 = .ok (.iload_n 3, 1) := by decide +kernel
theorem dX1_passYear_73 : decode mX1_passYear.2.1 73 = .ok (.invokevirtual 93, 3) := by decide +kernel
theorem dX1_passYear_76 : decode mX1_passYear.2.1 76 = .ok (.iinc 4 1, 3) := by decide +kernel
theorem dX1_passYear_79 : decode mX1_passYear.2.1 79 = .ok (.goto (-58), 3) := by decide +kernel
theorem dX1_passYear_82 : decode mX1_passYear.2.1 82 = .ok (.aload_n 0, 1) := by decide +kernel
theorem dX1_passYear_83 : decode mX1_passYear.2.1 83 = .ok (.ldc 97, 2) := by decide +kernel
theorem dX1_passYear_85 : decode mX1_passYear.2.1 85 = .ok (.aload_n 0, 1) := by decide +kernel
theorem dX1_passYear_86 : decode mX1_passYear.2.1 86 = .ok (.getfield 42, 3) := by decide +kernel
theorem dX1_passYear_89 : decode mX1_passYear.2.1 89 = .ok (.iconst 1, 1) := by decide +kernel
theorem dX1_passYear_90 : decode mX1_passYear.2.1 90 = .ok (.iadd, 1) := by decide +kernel
theorem dX1_passYear_91 : decode mX1_passYear.2.1 91 = .ok (.invokestatic 98, 3) := by decide +kernel
theorem dX1_passYear_94 : decode mX1_passYear.2.1 94 = .ok (.putfield 42, 3) := by decide +kernel
theorem dX1_passYear_97 : decode mX1_passYear.2.1 97 = .ok (.return_, 1) := by decide +kernel
theorem dX1_together_0 : decode mX1_together.2.1 0 = .ok (.iconst 0, 1) := by decide +kernel
theorem dX1_together_1 : decode mX1_together.2.1 1 = .ok (.istore_n 2, 1) := by decide +kernel
theorem dX1_together_2 : decode mX1_together.2.1 2 = .ok (.iconst 0, 1) := by decide +kernel
theorem dX1_together_3 : decode mX1_together.2.1 3 = .ok (.istore_n 3, 1) := by decide +kernel
theorem dX1_together_4 : decode mX1_together.2.1 4 = .ok (.iload_n 3, 1) := by decide +kernel
theorem dX1_together_5 : decode mX1_together.2.1 5 = .ok (.aload_n 0, 1) := by decide +kernel
theorem dX1_together_6 : decode mX1_together.2.1 6 = .ok (.getfield 35, 3) := by decide +kernel
theorem dX1_together_9 : decode mX1_together.2.1 9 = .ok (.if_icmp .ge 22, 3) := by decide +kernel
theorem dX1_together_12 : decode mX1_together.2.1 12 = .ok (.iload_n 2, 1) := by decide +kernel
theorem dX1_together_13 : decode mX1_together.2.1 13 = .ok (.aload_n 0, 1) := by decide +kernel
theorem dX1_together_14 : decode mX1_together.2.1 14 = .ok (.getfield 17, 3) := by decide +kernel
theorem dX1_together_17 : decode mX1_together.2.1 17 = .ok (.iload_n 3, 1) := by decide +kernel
theorem dX1_together_18 : decode mX1_together.2.1 18 = .ok (.aaload, 1) := by decide +kernel
theorem dX1_together_19 : decode mX1_together.2.1 19 = .ok (.iload_n 1, 1) := by decide +kernel
theorem dX1_together_20 : decode mX1_together.2.1 20 = .ok (.invokevirtual 101, 3) := by decide +kernel
theorem dX1_together_23 : decode mX1_together.2.1 23 = .ok (.iadd, 1) := by decide +kernel
theorem dX1_together_24 : decode mX1_together.2.1 24 = .ok (.istore_n 2, 1) := by decide +kernel
theorem dX1_together_25 : decode mX1_together.2.1 25 = .ok (.iinc 3 1, 3) := by decide +kernel
theorem dX1_together_28 : decode mX1_together.2.1 28 = .ok (.goto (-24), 3) := by decide +kernel
theorem dX1_together_31 : decode mX1_together.2.1 31 = .ok (.iload_n 2, 1) := by decide +kernel
theorem dX1_together_32 : decode mX1_together.2.1 32 = .ok (.ireturn, 1) := by decide +kernel
theorem dX1_whoHadIt_0 : decode mX1_whoHadIt.2.1 0 = .ok (.iconst 0, 1) := by decide +kernel
theorem dX1_whoHadIt_1 : decode mX1_whoHadIt.2.1 1 = .ok (.istore_n 1, 1) := by decide +kernel
theorem dX1_whoHadIt_2 : decode mX1_whoHadIt.2.1 2 = .ok (.iconst 0, 1) := by decide +kernel
theorem dX1_whoHadIt_3 : decode mX1_whoHadIt.2.1 3 = .ok (.istore_n 2, 1) := by decide +kernel
theorem dX1_whoHadIt_4 : decode mX1_whoHadIt.2.1 4 = .ok (.iload_n 2, 1) := by decide +kernel
theorem dX1_whoHadIt_5 : decode mX1_whoHadIt.2.1 5 = .ok (.aload_n 0, 1) := by decide +kernel
theorem dX1_whoHadIt_6 : decode mX1_whoHadIt.2.1 6 = .ok (.getfield 35, 3) := by decide +kernel
theorem dX1_whoHadIt_9 : decode mX1_whoHadIt.2.1 9 = .ok (.if_icmp .ge 27, 3) := by decide +kernel
theorem dX1_whoHadIt_12 : decode mX1_whoHadIt.2.1 12 = .ok (.aload_n 0, 1) := by decide +kernel
theorem dX1_whoHadIt_13 : decode mX1_whoHadIt.2.1 13 = .ok (.getfield 17, 3) := by decide +kernel
theorem dX1_whoHadIt_16 : decode mX1_whoHadIt.2.1 16 = .ok (.iload_n 2, 1) := by decide +kernel
theorem dX1_whoHadIt_17 : decode mX1_whoHadIt.2.1 17 = .ok (.aaload, 1) := by decide +kernel
theorem dX1_whoHadIt_18 : decode mX1_whoHadIt.2.1 18 = .ok (.getfield 104, 3) := by decide +kernel
theorem dX1_whoHadIt_21 : decode mX1_whoHadIt.2.1 21 = .ok (.ifCond .le 9, 3) := by decide +kernel
theorem dX1_whoHadIt_24 : decode mX1_whoHadIt.2.1 24 = .ok (.iload_n 1, 1) := by decide +kernel
theorem dX1_whoHadIt_25 : decode mX1_whoHadIt.2.1 25 = .ok (.iconst 1, 1) := by decide +kernel
theorem dX1_whoHadIt_26 : decode mX1_whoHadIt.2.1 26 = .ok (.iload_n 2, 1) := by decide +kernel
theorem dX1_whoHadIt_27 : decode mX1_whoHadIt.2.1 27 = .ok (.ishl, 1) := by decide +kernel
theorem dX1_whoHadIt_28 : decode mX1_whoHadIt.2.1 28 = .ok (.ior, 1) := by decide +kernel
theorem dX1_whoHadIt_29 : decode mX1_whoHadIt.2.1 29 = .ok (.istore_n 1, 1) := by decide +kernel
theorem dX1_whoHadIt_30 : decode mX1_whoHadIt.2.1 30 = .ok (.iinc 2 1, 3) := by decide +kernel
theorem dX1_whoHadIt_33 : decode mX1_whoHadIt.2.1 33 = .ok (.goto (-29), 3) := by decide +kernel
theorem dX1_whoHadIt_36 : decode mX1_whoHadIt.2.1 36 = .ok (.iload_n 1, 1) := by decide +kernel
theorem dX1_whoHadIt_37 : decode mX1_whoHadIt.2.1 37 = .ok (.ireturn, 1) := by decide +kernel
theorem dX1_spotsHeld_0 : decode mX1_spotsHeld.2.1 0 = .ok (.iconst 0, 1) := by decide +kernel
theorem dX1_spotsHeld_1 : decode mX1_spotsHeld.2.1 1 = .ok (.istore_n 1, 1) := by decide +kernel
theorem dX1_spotsHeld_2 : decode mX1_spotsHeld.2.1 2 = .ok (.aload_n 0, 1) := by decide +kernel
theorem dX1_spotsHeld_3 : decode mX1_spotsHeld.2.1 3 = .ok (.getfield 22, 3) := by decide +kernel
theorem dX1_spotsHeld_6 : decode mX1_spotsHeld.2.1 6 = .ok (.astore_n 2, 1) := by decide +kernel
theorem dX1_spotsHeld_7 : decode mX1_spotsHeld.2.1 7 = .ok (.aload_n 2, 1) := by decide +kernel
theorem dX1_spotsHeld_8 : decode mX1_spotsHeld.2.1 8 = .ok (.arraylength, 1) := by decide +kernel
theorem dX1_spotsHeld_9 : decode mX1_spotsHeld.2.1 9 = .ok (.istore_n 3, 1) := by decide +kernel
theorem dX1_spotsHeld_10 : decode mX1_spotsHeld.2.1 10 = .ok (.iconst 0, 1) := by decide +kernel
theorem dX1_spotsHeld_11 : decode mX1_spotsHeld.2.1 11 = .ok (.istore 4, 2) := by decide +kernel
theorem dX1_spotsHeld_13 : decode mX1_spotsHeld.2.1 13 = .ok (.iload 4, 2) := by decide +kernel
theorem dX1_spotsHeld_15 : decode mX1_spotsHeld.2.1 15 = .ok (.iload_n 3, 1) := by decide +kernel
theorem dX1_spotsHeld_16 : decode mX1_spotsHeld.2.1 16 = .ok (.if_icmp .ge 24, 3) := by decide +kernel
theorem dX1_spotsHeld_19 : decode mX1_spotsHeld.2.1 19 = .ok (.aload_n 2, 1) := by decide +kernel
theorem dX1_spotsHeld_20 : decode mX1_spotsHeld.2.1 20 = .ok (.iload 4, 2) := by decide +kernel
theorem dX1_spotsHeld_22 : decode mX1_spotsHeld.2.1 22 = .ok (.iaload, 1) := by decide +kernel
theorem dX1_spotsHeld_23 : decode mX1_spotsHeld.2.1 23 = .ok (.istore 5, 2) := by decide +kernel
theorem dX1_spotsHeld_25 : decode mX1_spotsHeld.2.1 25 = .ok (.iload 5, 2) := by decide +kernel
theorem dX1_spotsHeld_27 : decode mX1_spotsHeld.2.1 27 = .ok (.iconst (-1), 1) := by decide +kernel
theorem dX1_spotsHeld_28 : decode mX1_spotsHeld.2.1 28 = .ok (.if_icmp .eq 6, 3) := by decide +kernel
theorem dX1_spotsHeld_31 : decode mX1_spotsHeld.2.1 31 = .ok (.iinc 1 1, 3) := by decide +kernel
theorem dX1_spotsHeld_34 : decode mX1_spotsHeld.2.1 34 = .ok (.iinc 4 1, 3) := by decide +kernel
theorem dX1_spotsHeld_37 : decode mX1_spotsHeld.2.1 37 = .ok (.goto (-24), 3) := by decide +kernel
theorem dX1_spotsHeld_40 : decode mX1_spotsHeld.2.1 40 = .ok (.iload_n 1, 1) := by decide +kernel
theorem dX1_spotsHeld_41 : decode mX1_spotsHeld.2.1 41 = .ok (.ireturn, 1) := by decide +kernel
theorem dX1_draw_0 : decode mX1_draw.2.1 0 = .ok (.aload_n 0, 1) := by decide +kernel
theorem dX1_draw_1 : decode mX1_draw.2.1 1 = .ok (.aload_n 0, 1) := by decide +kernel
theorem dX1_draw_2 : decode mX1_draw.2.1 2 = .ok (.getfield 25, 3) := by decide +kernel
theorem dX1_draw_5 : decode mX1_draw.2.1 5 = .ok (.ldc 107, 2) := by decide +kernel
theorem dX1_draw_7 : decode mX1_draw.2.1 7 = .ok (.imul, 1) := by decide +kernel
theorem dX1_draw_8 : decode mX1_draw.2.1 8 = .ok (.sipush 12345, 3) := by decide +kernel
theorem dX1_draw_11 : decode mX1_draw.2.1 11 = .ok (.iadd, 1) := by decide +kernel
theorem dX1_draw_12 : decode mX1_draw.2.1 12 = .ok (.putfield 25, 3) := by decide +kernel
theorem dX1_draw_15 : decode mX1_draw.2.1 15 = .ok (.aload_n 0, 1) := by decide +kernel
theorem dX1_draw_16 : decode mX1_draw.2.1 16 = .ok (.getfield 25, 3) := by decide +kernel
theorem dX1_draw_19 : decode mX1_draw.2.1 19 = .ok (.bipush 8, 2) := by decide +kernel
theorem dX1_draw_21 : decode mX1_draw.2.1 21 = .ok (.iushr, 1) := by decide +kernel
theorem dX1_draw_22 : decode mX1_draw.2.1 22 = .ok (.ireturn, 1) := by decide +kernel
theorem dX2_mayHave_0 : decode mX2_mayHave.2.1 0 = .ok (.iload_n 0, 1) := by decide +kernel
theorem dX2_mayHave_1 : decode mX2_mayHave.2.1 1 = .ok (.ifCond .eq 21, 3) := by decide +kernel
theorem dX2_mayHave_4 : decode mX2_mayHave.2.1 4 = .ok (.iload_n 0, 1) := by decide +kernel
theorem dX2_mayHave_5 : decode mX2_mayHave.2.1 5 = .ok (.bipush 8, 2) := by decide +kernel
theorem dX2_mayHave_7 : decode mX2_mayHave.2.1 7 = .ok (.if_icmp .eq 15, 3) := by decide +kernel
theorem dX2_mayHave_10 : decode mX2_mayHave.2.1 10 = .ok (.iload_n 0, 1) := by decide +kernel
theorem dX2_mayHave_11 : decode mX2_mayHave.2.1 11 = .ok (.bipush 16, 2) := by decide +kernel
theorem dX2_mayHave_13 : decode mX2_mayHave.2.1 13 = .ok (.if_icmp .eq 9, 3) := by decide +kernel
theorem dX2_mayHave_16 : decode mX2_mayHave.2.1 16 = .ok (.iload_n 0, 1) := by decide +kernel
theorem dX2_mayHave_17 : decode mX2_mayHave.2.1 17 = .ok (.bipush 32, 2) := by decide +kernel
theorem dX2_mayHave_19 : decode mX2_mayHave.2.1 19 = .ok (.if_icmp .ne 7, 3) := by decide +kernel
theorem dX2_mayHave_22 : decode mX2_mayHave.2.1 22 = .ok (.iconst 1, 1) := by decide +kernel
theorem dX2_mayHave_23 : decode mX2_mayHave.2.1 23 = .ok (.goto 4, 3) := by decide +kernel
theorem dX2_mayHave_26 : decode mX2_mayHave.2.1 26 = .ok (.iconst 0, 1) := by decide +kernel
theorem dX2_mayHave_27 : decode mX2_mayHave.2.1 27 = .ok (.ireturn, 1) := by decide +kernel
theorem dX2_begin_0 : decode mX2_begin.2.1 0 = .ok (.aload_n 0, 1) := by decide +kernel
theorem dX2_begin_1 : decode mX2_begin.2.1 1 = .ok (.iload_n 1, 1) := by decide +kernel
theorem dX2_begin_2 : decode mX2_begin.2.1 2 = .ok (.putfield 15, 3) := by decide +kernel
theorem dX2_begin_5 : decode mX2_begin.2.1 5 = .ok (.aload_n 0, 1) := by decide +kernel
theorem dX2_begin_6 : decode mX2_begin.2.1 6 = .ok (.iload_n 1, 1) := by decide +kernel
theorem dX2_begin_7 : decode mX2_begin.2.1 7 = .ok (.ifCond .ne 7, 3) := by decide +kernel
theorem dX2_begin_10 : decode mX2_begin.2.1 10 = .ok (.iconst 0, 1) := by decide +kernel
theorem dX2_begin_11 : decode mX2_begin.2.1 11 = .ok (.goto 4, 3) := by decide +kernel
theorem dX2_begin_14 : decode mX2_begin.2.1 14 = .ok (.iload_n 2, 1) := by decide +kernel
theorem dX2_begin_15 : decode mX2_begin.2.1 15 = .ok (.putfield 19, 3) := by decide +kernel
theorem dX2_begin_18 : decode mX2_begin.2.1 18 = .ok (.iconst 0, 1) := by decide +kernel
theorem dX2_begin_19 : decode mX2_begin.2.1 19 = .ok (.istore_n 3, 1) := by decide +kernel
theorem dX2_begin_20 : decode mX2_begin.2.1 20 = .ok (.iload_n 3, 1) := by decide +kernel
theorem dX2_begin_21 : decode mX2_begin.2.1 21 = .ok (.bipush 40, 2) := by decide +kernel
theorem dX2_begin_23 : decode mX2_begin.2.1 23 = .ok (.if_icmp .ge 16, 3) := by decide +kernel
theorem dX2_begin_26 : decode mX2_begin.2.1 26 = .ok (.aload_n 0, 1) := by decide +kernel
theorem dX2_begin_27 : decode mX2_begin.2.1 27 = .ok (.getfield 9, 3) := by decide +kernel
theorem dX2_begin_30 : decode mX2_begin.2.1 30 = .ok (.iload_n 3, 1) := by decide +kernel
theorem dX2_begin_31 : decode mX2_begin.2.1 31 = .ok (.iconst 0, 1) := by decide +kernel
theorem dX2_begin_32 : decode mX2_begin.2.1 32 = .ok (.iastore, 1) := by decide +kernel
theorem dX2_begin_33 : decode mX2_begin.2.1 33 = .ok (.iinc 3 1, 3) := by decide +kernel
theorem dX2_begin_36 : decode mX2_begin.2.1 36 = .ok (.goto (-16), 3) := by decide +kernel
theorem dX2_begin_39 : decode mX2_begin.2.1 39 = .ok (.return_, 1) := by decide +kernel
theorem dX2_isMissing_0 : decode mX2_isMissing.2.1 0 = .ok (.aload_n 0, 1) := by decide +kernel
theorem dX2_isMissing_1 : decode mX2_isMissing.2.1 1 = .ok (.getfield 15, 3) := by decide +kernel
theorem dX2_isMissing_4 : decode mX2_isMissing.2.1 4 = .ok (.ifCond .ne 7, 3) := by decide +kernel
theorem dX2_isMissing_7 : decode mX2_isMissing.2.1 7 = .ok (.iconst 1, 1) := by decide +kernel
theorem dX2_isMissing_8 : decode mX2_isMissing.2.1 8 = .ok (.goto 4, 3) := by decide +kernel
theorem dX2_isMissing_11 : decode mX2_isMissing.2.1 11 = .ok (.iconst 0, 1) := by decide +kernel
theorem dX2_isMissing_12 : decode mX2_isMissing.2.1 12 = .ok (.ireturn, 1) := by decide +kernel
theorem dX2_put_0 : decode mX2_put.2.1 0 = .ok (.aload_n 0, 1) := by decide +kernel
theorem dX2_put_1 : decode mX2_put.2.1 1 = .ok (.getfield 15, 3) := by decide +kernel
theorem dX2_put_4 : decode mX2_put.2.1 4 = .ok (.bipush 8, 2) := by decide +kernel
theorem dX2_put_6 : decode mX2_put.2.1 6 = .ok (.if_icmp .ne 14, 3) := by decide +kernel
theorem dX2_put_9 : decode mX2_put.2.1 9 = .ok (.aload_n 0, 1) := by decide +kernel
theorem dX2_put_10 : decode mX2_put.2.1 10 = .ok (.getfield 9, 3) := by decide +kernel
theorem dX2_put_13 : decode mX2_put.2.1 13 = .ok (.iload_n 1, 1) := by decide +kernel
theorem dX2_put_14 : decode mX2_put.2.1 14 = .ok (.iload_n 2, 1) := by decide +kernel
theorem dX2_put_15 : decode mX2_put.2.1 15 = .ok (.i2b, 1) := by decide +kernel
theorem dX2_put_16 : decode mX2_put.2.1 16 = .ok (.iastore, 1) := by decide +kernel
theorem dX2_put_17 : decode mX2_put.2.1 17 = .ok (.goto 30, 3) := by decide +kernel
theorem dX2_put_20 : decode mX2_put.2.1 20 = .ok (.aload_n 0, 1) := by decide +kernel
theorem dX2_put_21 : decode mX2_put.2.1 21 = .ok (.getfield 15, 3) := by decide +kernel
theorem dX2_put_24 : decode mX2_put.2.1 24 = .ok (.bipush 16, 2) := by decide +kernel
theorem dX2_put_26 : decode mX2_put.2.1 26 = .ok (.if_icmp .ne 14, 3) := by decide +kernel
theorem dX2_put_29 : decode mX2_put.2.1 29 = .ok (.aload_n 0, 1) := by decide +kernel
theorem dX2_put_30 : decode mX2_put.2.1 30 = .ok (.getfield 9, 3) := by decide +kernel
theorem dX2_put_33 : decode mX2_put.2.1 33 = .ok (.iload_n 1, 1) := by decide +kernel
theorem dX2_put_34 : decode mX2_put.2.1 34 = .ok (.iload_n 2, 1) := by decide +kernel
theorem dX2_put_35 : decode mX2_put.2.1 35 = .ok (.i2s, 1) := by decide +kernel
theorem dX2_put_36 : decode mX2_put.2.1 36 = .ok (.iastore, 1) := by decide +kernel
theorem dX2_put_37 : decode mX2_put.2.1 37 = .ok (.goto 10, 3) := by decide +kernel
theorem dX2_put_40 : decode mX2_put.2.1 40 = .ok (.aload_n 0, 1) := by decide +kernel
theorem dX2_put_41 : decode mX2_put.2.1 41 = .ok (.getfield 9, 3) := by decide +kernel
theorem dX2_put_44 : decode mX2_put.2.1 44 = .ok (.iload_n 1, 1) := by decide +kernel
theorem dX2_put_45 : decode mX2_put.2.1 45 = .ok (.iload_n 2, 1) := by decide +kernel
theorem dX2_put_46 : decode mX2_put.2.1 46 = .ok (.iastore, 1) := by decide +kernel
theorem dX2_put_47 : decode mX2_put.2.1 47 = .ok (.return_, 1) := by decide +kernel
theorem dX2_hasRow_0 : decode mX2_hasRow.2.1 0 = .ok (.iload_n 1, 1) := by decide +kernel
theorem dX2_hasRow_1 : decode mX2_hasRow.2.1 1 = .ok (.ifCond .lt 21, 3) := by decide +kernel
theorem dX2_hasRow_4 : decode mX2_hasRow.2.1 4 = .ok (.iload_n 2, 1) := by decide +kernel
theorem dX2_hasRow_5 : decode mX2_hasRow.2.1 5 = .ok (.ifCond .lt 17, 3) := by decide +kernel
theorem dX2_hasRow_8 : decode mX2_hasRow.2.1 8 = .ok (.iload_n 2, 1) := by decide +kernel
theorem dX2_hasRow_9 : decode mX2_hasRow.2.1 9 = .ok (.aload_n 0, 1) := by decide +kernel
theorem dX2_hasRow_10 : decode mX2_hasRow.2.1 10 = .ok (.getfield 19, 3) := by decide +kernel
theorem dX2_hasRow_13 : decode mX2_hasRow.2.1 13 = .ok (.iload_n 1, 1) := by decide +kernel
theorem dX2_hasRow_14 : decode mX2_hasRow.2.1 14 = .ok (.isub, 1) := by decide +kernel
theorem dX2_hasRow_15 : decode mX2_hasRow.2.1 15 = .ok (.if_icmp .gt 7, 3) := by decide +kernel
theorem dX2_hasRow_18 : decode mX2_hasRow.2.1 18 = .ok (.iconst 1, 1) := by decide +kernel
theorem dX2_hasRow_19 : decode mX2_hasRow.2.1 19 = .ok (.goto 4, 3) := by decide +kernel
theorem dX2_hasRow_22 : decode mX2_hasRow.2.1 22 = .ok (.iconst 0, 1) := by decide +kernel
theorem dX2_hasRow_23 : decode mX2_hasRow.2.1 23 = .ok (.ireturn, 1) := by decide +kernel
theorem dX3_add_0 : decode mX3_add.2.1 0 = .ok (.aload_n 0, 1) := by decide +kernel
theorem dX3_add_1 : decode mX3_add.2.1 1 = .ok (.getfield 15, 3) := by decide +kernel
theorem dX3_add_4 : decode mX3_add.2.1 4 = .ok (.bipush 120, 2) := by decide +kernel
theorem dX3_add_6 : decode mX3_add.2.1 6 = .ok (.if_icmp .ge 23, 3) := by decide +kernel
theorem dX3_add_9 : decode mX3_add.2.1 9 = .ok (.aload_n 0, 1) := by decide +kernel
theorem dX3_add_10 : decode mX3_add.2.1 10 = .ok (.getfield 9, 3) := by decide +kernel
theorem dX3_add_13 : decode mX3_add.2.1 13 = .ok (.aload_n 0, 1) := by decide +kernel
theorem dX3_add_14 : decode mX3_add.2.1 14 = .ok (.getfield 15, 3) := by decide +kernel
theorem dX3_add_17 : decode mX3_add.2.1 17 = .ok (.iload_n 1, 1) := by decide +kernel
theorem dX3_add_18 : decode mX3_add.2.1 18 = .ok (.bastore, 1) := by decide +kernel
theorem dX3_add_19 : decode mX3_add.2.1 19 = .ok (.aload_n 0, 1) := by decide +kernel
theorem dX3_add_20 : decode mX3_add.2.1 20 = .ok (.dup, 1) := by decide +kernel
theorem dX3_add_21 : decode mX3_add.2.1 21 = .ok (.getfield 15, 3) := by decide +kernel
theorem dX3_add_24 : decode mX3_add.2.1 24 = .ok (.iconst 1, 1) := by decide +kernel
theorem dX3_add_25 : decode mX3_add.2.1 25 = .ok (.iadd, 1) := by decide +kernel
theorem dX3_add_26 : decode mX3_add.2.1 26 = .ok (.putfield 15, 3) := by decide +kernel
theorem dX3_add_29 : decode mX3_add.2.1 29 = .ok (.return_, 1) := by decide +kernel
theorem dX3_lookFromBegin_0 : decode mX3_lookFromBegin.2.1 0 = .ok (.aload_n 0, 1) := by decide +kernel
theorem dX3_lookFromBegin_1 : decode mX3_lookFromBegin.2.1 1 = .ok (.iconst 0, 1) := by decide +kernel
theorem dX3_lookFromBegin_2 : decode mX3_lookFromBegin.2.1 2 = .ok (.putfield 22, 3) := by decide +kernel
theorem dX3_lookFromBegin_5 : decode mX3_lookFromBegin.2.1 5 = .ok (.aload_n 0, 1) := by decide +kernel
theorem dX3_lookFromBegin_6 : decode mX3_lookFromBegin.2.1 6 = .ok (.invokevirtual 31, 3) := by decide +kernel
theorem dX3_lookFromBegin_9 : decode mX3_lookFromBegin.2.1 9 = .ok (.return_, 1) := by decide +kernel
theorem dX3_advance_0 : decode mX3_advance.2.1 0 = .ok (.aload_n 0, 1) := by decide +kernel
theorem dX3_advance_1 : decode mX3_advance.2.1 1 = .ok (.aload_n 0, 1) := by decide +kernel
theorem dX3_advance_2 : decode mX3_advance.2.1 2 = .ok (.getfield 22, 3) := by decide +kernel
theorem dX3_advance_5 : decode mX3_advance.2.1 5 = .ok (.putfield 19, 3) := by decide +kernel
theorem dX3_advance_8 : decode mX3_advance.2.1 8 = .ok (.aload_n 0, 1) := by decide +kernel
theorem dX3_advance_9 : decode mX3_advance.2.1 9 = .ok (.getfield 19, 3) := by decide +kernel
theorem dX3_advance_12 : decode mX3_advance.2.1 12 = .ok (.aload_n 0, 1) := by decide +kernel
theorem dX3_advance_13 : decode mX3_advance.2.1 13 = .ok (.getfield 15, 3) := by decide +kernel
theorem dX3_advance_16 : decode mX3_advance.2.1 16 = .ok (.if_icmp .ge 30, 3) := by decide +kernel
theorem dX3_advance_19 : decode mX3_advance.2.1 19 = .ok (.aload_n 0, 1) := by decide +kernel
theorem dX3_advance_20 : decode mX3_advance.2.1 20 = .ok (.getfield 9, 3) := by decide +kernel
theorem dX3_advance_23 : decode mX3_advance.2.1 23 = .ok (.aload_n 0, 1) := by decide +kernel
theorem dX3_advance_24 : decode mX3_advance.2.1 24 = .ok (.getfield 19, 3) := by decide +kernel
theorem dX3_advance_27 : decode mX3_advance.2.1 27 = .ok (.baload, 1) := by decide +kernel
theorem dX3_advance_28 : decode mX3_advance.2.1 28 = .ok (.bipush 32, 2) := by decide +kernel
theorem dX3_advance_30 : decode mX3_advance.2.1 30 = .ok (.if_icmp .ne 16, 3) := by decide +kernel
theorem dX3_advance_33 : decode mX3_advance.2.1 33 = .ok (.aload_n 0, 1) := by decide +kernel
theorem dX3_advance_34 : decode mX3_advance.2.1 34 = .ok (.dup, 1) := by decide +kernel
theorem dX3_advance_35 : decode mX3_advance.2.1 35 = .ok (.getfield 19, 3) := by decide +kernel
theorem dX3_advance_38 : decode mX3_advance.2.1 38 = .ok (.iconst 1, 1) := by decide +kernel
theorem dX3_advance_39 : decode mX3_advance.2.1 39 = .ok (.iadd, 1) := by decide +kernel
theorem dX3_advance_40 : decode mX3_advance.2.1 40 = .ok (.putfield 19, 3) := by decide +kernel
theorem dX3_advance_43 : decode mX3_advance.2.1 43 = .ok (.goto (-35), 3) := by decide +kernel
theorem dX3_advance_46 : decode mX3_advance.2.1 46 = .ok (.aload_n 0, 1) := by decide +kernel
theorem dX3_advance_47 : decode mX3_advance.2.1 47 = .ok (.aload_n 0, 1) := by decide +kernel
theorem dX3_advance_48 : decode mX3_advance.2.1 48 = .ok (.getfield 19, 3) := by decide +kernel
theorem dX3_advance_51 : decode mX3_advance.2.1 51 = .ok (.putfield 22, 3) := by decide +kernel
theorem dX3_advance_54 : decode mX3_advance.2.1 54 = .ok (.aload_n 0, 1) := by decide +kernel
theorem dX3_advance_55 : decode mX3_advance.2.1 55 = .ok (.iconst 0, 1) := by decide +kernel
theorem dX3_advance_56 : decode mX3_advance.2.1 56 = .ok (.putfield 28, 3) := by decide +kernel
theorem dX3_advance_59 : decode mX3_advance.2.1 59 = .ok (.aload_n 0, 1) := by decide +kernel
theorem dX3_advance_60 : decode mX3_advance.2.1 60 = .ok (.getfield 19, 3) := by decide +kernel
theorem dX3_advance_63 : decode mX3_advance.2.1 63 = .ok (.aload_n 0, 1) := by decide +kernel
theorem dX3_advance_64 : decode mX3_advance.2.1 64 = .ok (.getfield 15, 3) := by decide +kernel
theorem dX3_advance_67 : decode mX3_advance.2.1 67 = .ok (.if_icmp .lt 11, 3) := by decide +kernel
theorem dX3_advance_70 : decode mX3_advance.2.1 70 = .ok (.aload_n 0, 1) := by decide +kernel
theorem dX3_advance_71 : decode mX3_advance.2.1 71 = .ok (.iconst 5, 1) := by decide +kernel
theorem dX3_advance_72 : decode mX3_advance.2.1 72 = .ok (.putfield 25, 3) := by decide +kernel
theorem dX3_advance_75 : decode mX3_advance.2.1 75 = .ok (.goto 177, 3) := by decide +kernel
theorem dX3_advance_78 : decode mX3_advance.2.1 78 = .ok (.aload_n 0, 1) := by decide +kernel
theorem dX3_advance_79 : decode mX3_advance.2.1 79 = .ok (.getfield 9, 3) := by decide +kernel
theorem dX3_advance_82 : decode mX3_advance.2.1 82 = .ok (.aload_n 0, 1) := by decide +kernel
theorem dX3_advance_83 : decode mX3_advance.2.1 83 = .ok (.getfield 19, 3) := by decide +kernel
theorem dX3_advance_86 : decode mX3_advance.2.1 86 = .ok (.baload, 1) := by decide +kernel
theorem dX3_advance_87 : decode mX3_advance.2.1 87 = .ok (.invokestatic 34, 3) := by decide +kernel
theorem dX3_advance_90 : decode mX3_advance.2.1 90 = .ok (.ifCond .eq 47, 3) := by decide +kernel
theorem dX3_advance_93 : decode mX3_advance.2.1 93 = .ok (.aload_n 0, 1) := by decide +kernel
theorem dX3_advance_94 : decode mX3_advance.2.1 94 = .ok (.iconst 0, 1) := by decide +kernel
theorem dX3_advance_95 : decode mX3_advance.2.1 95 = .ok (.putfield 25, 3) := by decide +kernel
theorem dX3_advance_98 : decode mX3_advance.2.1 98 = .ok (.aload_n 0, 1) := by decide +kernel
theorem dX3_advance_99 : decode mX3_advance.2.1 99 = .ok (.getfield 22, 3) := by decide +kernel
theorem dX3_advance_102 : decode mX3_advance.2.1 102 = .ok (.aload_n 0, 1) := by decide +kernel
theorem dX3_advance_103 : decode mX3_advance.2.1 103 = .ok (.getfield 15, 3) := by decide +kernel
theorem dX3_advance_106 : decode mX3_advance.2.1 106 = .ok (.if_icmp .ge 146, 3) := by decide +kernel
theorem dX3_advance_109 : decode mX3_advance.2.1 109 = .ok (.aload_n 0, 1) := by decide +kernel
theorem dX3_advance_110 : decode mX3_advance.2.1 110 = .ok (.getfield 9, 3) := by decide +kernel
theorem dX3_advance_113 : decode mX3_advance.2.1 113 = .ok (.aload_n 0, 1) := by decide +kernel
theorem dX3_advance_114 : decode mX3_advance.2.1 114 = .ok (.getfield 22, 3) := by decide +kernel
theorem dX3_advance_117 : decode mX3_advance.2.1 117 = .ok (.baload, 1) := by decide +kernel
theorem dX3_advance_118 : decode mX3_advance.2.1 118 = .ok (.invokestatic 34, 3) := by decide +kernel
theorem dX3_advance_121 : decode mX3_advance.2.1 121 = .ok (.ifCond .eq 131, 3) := by decide +kernel
theorem dX3_advance_124 : decode mX3_advance.2.1 124 = .ok (.aload_n 0, 1) := by decide +kernel
theorem dX3_advance_125 : decode mX3_advance.2.1 125 = .ok (.dup, 1) := by decide +kernel
theorem dX3_advance_126 : decode mX3_advance.2.1 126 = .ok (.getfield 22, 3) := by decide +kernel
theorem dX3_advance_129 : decode mX3_advance.2.1 129 = .ok (.iconst 1, 1) := by decide +kernel
theorem dX3_advance_130 : decode mX3_advance.2.1 130 = .ok (.iadd, 1) := by decide +kernel
theorem dX3_advance_131 : decode mX3_advance.2.1 131 = .ok (.putfield 22, 3) := by decide +kernel
theorem dX3_advance_134 : decode mX3_advance.2.1 134 = .ok (.goto (-36), 3) := by decide +kernel
theorem dX3_advance_137 : decode mX3_advance.2.1 137 = .ok (.aload_n 0, 1) := by decide +kernel
theorem dX3_advance_138 : decode mX3_advance.2.1 138 = .ok (.getfield 9, 3) := by decide +kernel
theorem dX3_advance_141 : decode mX3_advance.2.1 141 = .ok (.aload_n 0, 1) := by decide +kernel
theorem dX3_advance_142 : decode mX3_advance.2.1 142 = .ok (.getfield 19, 3) := by decide +kernel
theorem dX3_advance_145 : decode mX3_advance.2.1 145 = .ok (.baload, 1) := by decide +kernel
theorem dX3_advance_146 : decode mX3_advance.2.1 146 = .ok (.invokestatic 38, 3) := by decide +kernel
theorem dX3_advance_149 : decode mX3_advance.2.1 149 = .ok (.ifCond .eq 77, 3) := by decide +kernel
theorem dX3_advance_152 : decode mX3_advance.2.1 152 = .ok (.aload_n 0, 1) := by decide +kernel
theorem dX3_advance_153 : decode mX3_advance.2.1 153 = .ok (.iconst 1, 1) := by decide +kernel
theorem dX3_advance_154 : decode mX3_advance.2.1 154 = .ok (.putfield 25, 3) := by decide +kernel
theorem dX3_advance_157 : decode mX3_advance.2.1 157 = .ok (.aload_n 0, 1) := by decide +kernel
theorem dX3_advance_158 : decode mX3_advance.2.1 158 = .ok (.getfield 22, 3) := by decide +kernel
theorem dX3_advance_161 : decode mX3_advance.2.1 161 = .ok (.aload_n 0, 1) := by decide +kernel
theorem dX3_advance_162 : decode mX3_advance.2.1 162 = .ok (.getfield 15, 3) := by decide +kernel
theorem dX3_advance_165 : decode mX3_advance.2.1 165 = .ok (.if_icmp .ge 87, 3) := by decide +kernel
theorem dX3_advance_168 : decode mX3_advance.2.1 168 = .ok (.aload_n 0, 1) := by decide +kernel
theorem dX3_advance_169 : decode mX3_advance.2.1 169 = .ok (.getfield 9, 3) := by decide +kernel
theorem dX3_advance_172 : decode mX3_advance.2.1 172 = .ok (.aload_n 0, 1) := by decide +kernel
theorem dX3_advance_173 : decode mX3_advance.2.1 173 = .ok (.getfield 22, 3) := by decide +kernel
theorem dX3_advance_176 : decode mX3_advance.2.1 176 = .ok (.baload, 1) := by decide +kernel
theorem dX3_advance_177 : decode mX3_advance.2.1 177 = .ok (.invokestatic 38, 3) := by decide +kernel
theorem dX3_advance_180 : decode mX3_advance.2.1 180 = .ok (.ifCond .eq 72, 3) := by decide +kernel
theorem dX3_advance_183 : decode mX3_advance.2.1 183 = .ok (.aload_n 0, 1) := by decide +kernel
theorem dX3_advance_184 : decode mX3_advance.2.1 184 = .ok (.sipush 1000, 3) := by decide +kernel
theorem dX3_advance_187 : decode mX3_advance.2.1 187 = .ok (.aload_n 0, 1) := by decide +kernel
theorem dX3_advance_188 : decode mX3_advance.2.1 188 = .ok (.getfield 28, 3) := by decide +kernel
theorem dX3_advance_191 : decode mX3_advance.2.1 191 = .ok (.bipush 10, 2) := by decide +kernel
theorem dX3_advance_193 : decode mX3_advance.2.1 193 = .ok (.imul, 1) := by decide +kernel
theorem dX3_advance_194 : decode mX3_advance.2.1 194 = .ok (.aload_n 0, 1) := by decide +kernel
theorem dX3_advance_195 : decode mX3_advance.2.1 195 = .ok (.getfield 9, 3) := by decide +kernel
theorem dX3_advance_198 : decode mX3_advance.2.1 198 = .ok (.aload_n 0, 1) := by decide +kernel
theorem dX3_advance_199 : decode mX3_advance.2.1 199 = .ok (.getfield 22, 3) := by decide +kernel
theorem dX3_advance_202 : decode mX3_advance.2.1 202 = .ok (.baload, 1) := by decide +kernel
theorem dX3_advance_203 : decode mX3_advance.2.1 203 = .ok (.iadd, 1) := by decide +kernel
theorem dX3_advance_204 : decode mX3_advance.2.1 204 = .ok (.bipush 48, 2) := by decide +kernel
theorem dX3_advance_206 : decode mX3_advance.2.1 206 = .ok (.isub, 1) := by decide +kernel
theorem dX3_advance_207 : decode mX3_advance.2.1 207 = .ok (.invokestatic 41, 3) := by decide +kernel
theorem dX3_advance_210 : decode mX3_advance.2.1 210 = .ok (.putfield 28, 3) := by decide +kernel
theorem dX3_advance_213 : decode mX3_advance.2.1 213 = .ok (.aload_n 0, 1) := by decide +kernel
theorem dX3_advance_214 : decode mX3_advance.2.1 214 = .ok (.dup, 1) := by decide +kernel
theorem dX3_advance_215 : decode mX3_advance.2.1 215 = .ok (.getfield 22, 3) := by decide +kernel
theorem dX3_advance_218 : decode mX3_advance.2.1 218 = .ok (.iconst 1, 1) := by decide +kernel
theorem dX3_advance_219 : decode mX3_advance.2.1 219 = .ok (.iadd, 1) := by decide +kernel
theorem dX3_advance_220 : decode mX3_advance.2.1 220 = .ok (.putfield 22, 3) := by decide +kernel
theorem dX3_advance_223 : decode mX3_advance.2.1 223 = .ok (.goto (-66), 3) := by decide +kernel
theorem dX3_advance_226 : decode mX3_advance.2.1 226 = .ok (.aload_n 0, 1) := by decide +kernel
theorem dX3_advance_227 : decode mX3_advance.2.1 227 = .ok (.aload_n 0, 1) := by decide +kernel
theorem dX3_advance_228 : decode mX3_advance.2.1 228 = .ok (.getfield 9, 3) := by decide +kernel
theorem dX3_advance_231 : decode mX3_advance.2.1 231 = .ok (.aload_n 0, 1) := by decide +kernel
theorem dX3_advance_232 : decode mX3_advance.2.1 232 = .ok (.getfield 19, 3) := by decide +kernel
theorem dX3_advance_235 : decode mX3_advance.2.1 235 = .ok (.baload, 1) := by decide +kernel
theorem dX3_advance_236 : decode mX3_advance.2.1 236 = .ok (.invokestatic 47, 3) := by decide +kernel
theorem dX3_advance_239 : decode mX3_advance.2.1 239 = .ok (.putfield 25, 3) := by decide +kernel
theorem dX3_advance_242 : decode mX3_advance.2.1 242 = .ok (.aload_n 0, 1) := by decide +kernel
theorem dX3_advance_243 : decode mX3_advance.2.1 243 = .ok (.dup, 1) := by decide +kernel
theorem dX3_advance_244 : decode mX3_advance.2.1 244 = .ok (.getfield 22, 3) := by decide +kernel
theorem dX3_advance_247 : decode mX3_advance.2.1 247 = .ok (.iconst 1, 1) := by decide +kernel
theorem dX3_advance_248 : decode mX3_advance.2.1 248 = .ok (.iadd, 1) := by decide +kernel
theorem dX3_advance_249 : decode mX3_advance.2.1 249 = .ok (.putfield 22, 3) := by decide +kernel
theorem dX3_advance_252 : decode mX3_advance.2.1 252 = .ok (.return_, 1) := by decide +kernel
theorem dX3_sortOfSign_0 : decode mX3_sortOfSign.2.1 0 = .ok (.iload_n 0, 1) := by decide +kernel
theorem dX3_sortOfSign_1 : decode mX3_sortOfSign.2.1 1 = .ok (.bipush 59, 2) := by decide +kernel
theorem dX3_sortOfSign_3 : decode mX3_sortOfSign.2.1 3 = .ok (.if_icmp .ne 5, 3) := by decide +kernel
theorem dX3_sortOfSign_6 : decode mX3_sortOfSign.2.1 6 = .ok (.iconst 2, 1) := by decide +kernel
theorem dX3_sortOfSign_7 : decode mX3_sortOfSign.2.1 7 = .ok (.ireturn, 1) := by decide +kernel
theorem dX3_sortOfSign_8 : decode mX3_sortOfSign.2.1 8 = .ok (.iload_n 0, 1) := by decide +kernel
theorem dX3_sortOfSign_9 : decode mX3_sortOfSign.2.1 9 = .ok (.bipush 45, 2) := by decide +kernel
theorem dX3_sortOfSign_11 : decode mX3_sortOfSign.2.1 11 = .ok (.if_icmp .ne 7, 3) := by decide +kernel
theorem dX3_sortOfSign_14 : decode mX3_sortOfSign.2.1 14 = .ok (.iconst 3, 1) := by decide +kernel
theorem dX3_sortOfSign_15 : decode mX3_sortOfSign.2.1 15 = .ok (.goto 4, 3) := by decide +kernel
theorem dX3_sortOfSign_18 : decode mX3_sortOfSign.2.1 18 = .ok (.iconst 4, 1) := by decide +kernel
theorem dX3_sortOfSign_19 : decode mX3_sortOfSign.2.1 19 = .ok (.ireturn, 1) := by decide +kernel
theorem dX3_isLetter_0 : decode mX3_isLetter.2.1 0 = .ok (.iload_n 0, 1) := by decide +kernel
theorem dX3_isLetter_1 : decode mX3_isLetter.2.1 1 = .ok (.bipush 97, 2) := by decide +kernel
theorem dX3_isLetter_3 : decode mX3_isLetter.2.1 3 = .ok (.if_icmp .lt 13, 3) := by decide +kernel
theorem dX3_isLetter_6 : decode mX3_isLetter.2.1 6 = .ok (.iload_n 0, 1) := by decide +kernel
theorem dX3_isLetter_7 : decode mX3_isLetter.2.1 7 = .ok (.bipush 122, 2) := by decide +kernel
theorem dX3_isLetter_9 : decode mX3_isLetter.2.1 9 = .ok (.if_icmp .gt 7, 3) := by decide +kernel
theorem dX3_isLetter_12 : decode mX3_isLetter.2.1 12 = .ok (.iconst 1, 1) := by decide +kernel
theorem dX3_isLetter_13 : decode mX3_isLetter.2.1 13 = .ok (.goto 4, 3) := by decide +kernel
theorem dX3_isLetter_16 : decode mX3_isLetter.2.1 16 = .ok (.iconst 0, 1) := by decide +kernel
theorem dX3_isLetter_17 : decode mX3_isLetter.2.1 17 = .ok (.ireturn, 1) := by decide +kernel
theorem dX3_isDigit_0 : decode mX3_isDigit.2.1 0 = .ok (.iload_n 0, 1) := by decide +kernel
theorem dX3_isDigit_1 : decode mX3_isDigit.2.1 1 = .ok (.bipush 48, 2) := by decide +kernel
theorem dX3_isDigit_3 : decode mX3_isDigit.2.1 3 = .ok (.if_icmp .lt 13, 3) := by decide +kernel
theorem dX3_isDigit_6 : decode mX3_isDigit.2.1 6 = .ok (.iload_n 0, 1) := by decide +kernel
theorem dX3_isDigit_7 : decode mX3_isDigit.2.1 7 = .ok (.bipush 57, 2) := by decide +kernel
theorem dX3_isDigit_9 : decode mX3_isDigit.2.1 9 = .ok (.if_icmp .gt 7, 3) := by decide +kernel
theorem dX3_isDigit_12 : decode mX3_isDigit.2.1 12 = .ok (.iconst 1, 1) := by decide +kernel
theorem dX3_isDigit_13 : decode mX3_isDigit.2.1 13 = .ok (.goto 4, 3) := by decide +kernel
theorem dX3_isDigit_16 : decode mX3_isDigit.2.1 16 = .ok (.iconst 0, 1) := by decide +kernel
theorem dX3_isDigit_17 : decode mX3_isDigit.2.1 17 = .ok (.ireturn, 1) := by decide +kernel
theorem dX3_isNumber_0 : decode mX3_isNumber.2.1 0 = .ok (.aload_n 0, 1) := by decide +kernel
theorem dX3_isNumber_1 : decode mX3_isNumber.2.1 1 = .ok (.getfield 25, 3) := by decide +kernel
theorem dX3_isNumber_4 : decode mX3_isNumber.2.1 4 = .ok (.iconst 1, 1) := by decide +kernel
theorem dX3_isNumber_5 : decode mX3_isNumber.2.1 5 = .ok (.if_icmp .ne 19, 3) := by decide +kernel
theorem dX3_isNumber_8 : decode mX3_isNumber.2.1 8 = .ok (.aload_n 0, 1) := by decide +kernel
theorem dX3_isNumber_9 : decode mX3_isNumber.2.1 9 = .ok (.getfield 28, 3) := by decide +kernel
theorem dX3_isNumber_12 : decode mX3_isNumber.2.1 12 = .ok (.iload_n 1, 1) := by decide +kernel
theorem dX3_isNumber_13 : decode mX3_isNumber.2.1 13 = .ok (.iload_n 2, 1) := by decide +kernel
theorem dX3_isNumber_14 : decode mX3_isNumber.2.1 14 = .ok (.invokestatic 51, 3) := by decide +kernel
theorem dX3_isNumber_17 : decode mX3_isNumber.2.1 17 = .ok (.ifCond .eq 7, 3) := by decide +kernel
theorem dX3_isNumber_20 : decode mX3_isNumber.2.1 20 = .ok (.iconst 1, 1) := by decide +kernel
theorem dX3_isNumber_21 : decode mX3_isNumber.2.1 21 = .ok (.goto 4, 3) := by decide +kernel
theorem dX3_isNumber_24 : decode mX3_isNumber.2.1 24 = .ok (.iconst 0, 1) := by decide +kernel
theorem dX3_isNumber_25 : decode mX3_isNumber.2.1 25 = .ok (.ireturn, 1) := by decide +kernel
theorem dX3_isWord_0 : decode mX3_isWord.2.1 0 = .ok (.aload_n 0, 1) := by decide +kernel
theorem dX3_isWord_1 : decode mX3_isWord.2.1 1 = .ok (.getfield 25, 3) := by decide +kernel
theorem dX3_isWord_4 : decode mX3_isWord.2.1 4 = .ok (.ifCond .ne 19, 3) := by decide +kernel
theorem dX3_isWord_7 : decode mX3_isWord.2.1 7 = .ok (.aload_n 0, 1) := by decide +kernel
theorem dX3_isWord_8 : decode mX3_isWord.2.1 8 = .ok (.getfield 22, 3) := by decide +kernel
theorem dX3_isWord_11 : decode mX3_isWord.2.1 11 = .ok (.aload_n 0, 1) := by decide +kernel
theorem dX3_isWord_12 : decode mX3_isWord.2.1 12 = .ok (.getfield 19, 3) := by decide +kernel
theorem dX3_isWord_15 : decode mX3_isWord.2.1 15 = .ok (.isub, 1) := by decide +kernel
theorem dX3_isWord_16 : decode mX3_isWord.2.1 16 = .ok (.aload_n 1, 1) := by decide +kernel
theorem dX3_isWord_17 : decode mX3_isWord.2.1 17 = .ok (.invokevirtual 55, 3) := by decide +kernel
theorem dX3_isWord_20 : decode mX3_isWord.2.1 20 = .ok (.if_icmp .eq 5, 3) := by decide +kernel
theorem dX3_isWord_23 : decode mX3_isWord.2.1 23 = .ok (.iconst 0, 1) := by decide +kernel
theorem dX3_isWord_24 : decode mX3_isWord.2.1 24 = .ok (.ireturn, 1) := by decide +kernel
theorem dX3_isWord_25 : decode mX3_isWord.2.1 25 = .ok (.iconst 0, 1) := by decide +kernel
theorem dX3_isWord_26 : decode mX3_isWord.2.1 26 = .ok (.istore_n 2, 1) := by decide +kernel
theorem dX3_isWord_27 : decode mX3_isWord.2.1 27 = .ok (.iload_n 2, 1) := by decide +kernel
theorem dX3_isWord_28 : decode mX3_isWord.2.1 28 = .ok (.aload_n 1, 1) := by decide +kernel
theorem dX3_isWord_29 : decode mX3_isWord.2.1 29 = .ok (.invokevirtual 55, 3) := by decide +kernel
theorem dX3_isWord_32 : decode mX3_isWord.2.1 32 = .ok (.if_icmp .ge 30, 3) := by decide +kernel
theorem dX3_isWord_35 : decode mX3_isWord.2.1 35 = .ok (.aload_n 0, 1) := by decide +kernel
theorem dX3_isWord_36 : decode mX3_isWord.2.1 36 = .ok (.getfield 9, 3) := by decide +kernel
theorem dX3_isWord_39 : decode mX3_isWord.2.1 39 = .ok (.aload_n 0, 1) := by decide +kernel
theorem dX3_isWord_40 : decode mX3_isWord.2.1 40 = .ok (.getfield 19, 3) := by decide +kernel
theorem dX3_isWord_43 : decode mX3_isWord.2.1 43 = .ok (.iload_n 2, 1) := by decide +kernel
theorem dX3_isWord_44 : decode mX3_isWord.2.1 44 = .ok (.iadd, 1) := by decide +kernel
theorem dX3_isWord_45 : decode mX3_isWord.2.1 45 = .ok (.baload, 1) := by decide +kernel
theorem dX3_isWord_46 : decode mX3_isWord.2.1 46 = .ok (.aload_n 1, 1) := by decide +kernel
theorem dX3_isWord_47 : decode mX3_isWord.2.1 47 = .ok (.iload_n 2, 1) := by decide +kernel
theorem dX3_isWord_48 : decode mX3_isWord.2.1 48 = .ok (.invokevirtual 61, 3) := by decide +kernel
theorem dX3_isWord_51 : decode mX3_isWord.2.1 51 = .ok (.if_icmp .eq 5, 3) := by decide +kernel
theorem dX3_isWord_54 : decode mX3_isWord.2.1 54 = .ok (.iconst 0, 1) := by decide +kernel
theorem dX3_isWord_55 : decode mX3_isWord.2.1 55 = .ok (.ireturn, 1) := by decide +kernel
theorem dX3_isWord_56 : decode mX3_isWord.2.1 56 = .ok (.iinc 2 1, 3) := by decide +kernel
theorem dX3_isWord_59 : decode mX3_isWord.2.1 59 = .ok (.goto (-32), 3) := by decide +kernel
theorem dX3_isWord_62 : decode mX3_isWord.2.1 62 = .ok (.iconst 1, 1) := by decide +kernel
theorem dX3_isWord_63 : decode mX3_isWord.2.1 63 = .ok (.ireturn, 1) := by decide +kernel
theorem dX4_readItems_0 : decode mX4_readItems.2.1 0 = .ok (.aload_n 0, 1) := by decide +kernel
theorem dX4_readItems_1 : decode mX4_readItems.2.1 1 = .ok (.getfield 9, 3) := by decide +kernel
theorem dX4_readItems_4 : decode mX4_readItems.2.1 4 = .ok (.invokevirtual 19, 3) := by decide +kernel
theorem dX4_readItems_7 : decode mX4_readItems.2.1 7 = .ok (.iconst 1, 1) := by decide +kernel
theorem dX4_readItems_8 : decode mX4_readItems.2.1 8 = .ok (.istore_n 1, 1) := by decide +kernel
theorem dX4_readItems_9 : decode mX4_readItems.2.1 9 = .ok (.iload_n 1, 1) := by decide +kernel
theorem dX4_readItems_10 : decode mX4_readItems.2.1 10 = .ok (.bipush 120, 2) := by decide +kernel
theorem dX4_readItems_12 : decode mX4_readItems.2.1 12 = .ok (.if_icmp .gt 53, 3) := by decide +kernel
theorem dX4_readItems_15 : decode mX4_readItems.2.1 15 = .ok (.aload_n 0, 1) := by decide +kernel
theorem dX4_readItems_16 : decode mX4_readItems.2.1 16 = .ok (.invokevirtual 24, 3) := by decide +kernel
theorem dX4_readItems_19 : decode mX4_readItems.2.1 19 = .ok (.ifCond .ne 6, 3) := by decide +kernel
theorem dX4_readItems_22 : decode mX4_readItems.2.1 22 = .ok (.goto 43, 3) := by decide +kernel
theorem dX4_readItems_25 : decode mX4_readItems.2.1 25 = .ok (.aload_n 0, 1) := by decide +kernel
theorem dX4_readItems_26 : decode mX4_readItems.2.1 26 = .ok (.getfield 9, 3) := by decide +kernel
theorem dX4_readItems_29 : decode mX4_readItems.2.1 29 = .ok (.getfield 28, 3) := by decide +kernel
theorem dX4_readItems_32 : decode mX4_readItems.2.1 32 = .ok (.iconst 5, 1) := by decide +kernel
theorem dX4_readItems_33 : decode mX4_readItems.2.1 33 = .ok (.if_icmp .ne 5, 3) := by decide +kernel
theorem dX4_readItems_36 : decode mX4_readItems.2.1 36 = .ok (.iload_n 1, 1) := by decide +kernel
theorem dX4_readItems_37 : decode mX4_readItems.2.1 37 = .ok (.ireturn, 1) := by decide +kernel
theorem dX4_readItems_38 : decode mX4_readItems.2.1 38 = .ok (.aload_n 0, 1) := by decide +kernel
theorem dX4_readItems_39 : decode mX4_readItems.2.1 39 = .ok (.getfield 9, 3) := by decide +kernel
theorem dX4_readItems_42 : decode mX4_readItems.2.1 42 = .ok (.getfield 28, 3) := by decide +kernel
theorem dX4_readItems_45 : decode mX4_readItems.2.1 45 = .ok (.iconst 2, 1) := by decide +kernel
theorem dX4_readItems_46 : decode mX4_readItems.2.1 46 = .ok (.if_icmp .eq 6, 3) := by decide +kernel
theorem dX4_readItems_49 : decode mX4_readItems.2.1 49 = .ok (.goto 16, 3) := by decide +kernel
theorem dX4_readItems_52 : decode mX4_readItems.2.1 52 = .ok (.aload_n 0, 1) := by decide +kernel
theorem dX4_readItems_53 : decode mX4_readItems.2.1 53 = .ok (.getfield 9, 3) := by decide +kernel
theorem dX4_readItems_56 : decode mX4_readItems.2.1 56 = .ok (.invokevirtual 32, 3) := by decide +kernel
theorem dX4_readItems_59 : decode mX4_readItems.2.1 59 = .ok (.iinc 1 1, 3) := by decide +kernel
theorem dX4_readItems_62 : decode mX4_readItems.2.1 62 = .ok (.goto (-53), 3) := by decide +kernel
theorem dX4_readItems_65 : decode mX4_readItems.2.1 65 = .ok (.iconst (-1), 1) := by decide +kernel
theorem dX4_readItems_66 : decode mX4_readItems.2.1 66 = .ok (.aload_n 0, 1) := by decide +kernel
theorem dX4_readItems_67 : decode mX4_readItems.2.1 67 = .ok (.getfield 9, 3) := by decide +kernel
theorem dX4_readItems_70 : decode mX4_readItems.2.1 70 = .ok (.getfield 35, 3) := by decide +kernel
theorem dX4_readItems_73 : decode mX4_readItems.2.1 73 = .ok (.isub, 1) := by decide +kernel
theorem dX4_readItems_74 : decode mX4_readItems.2.1 74 = .ok (.ireturn, 1) := by decide +kernel
theorem dX4_readsItem_0 : decode mX4_readsItem.2.1 0 = .ok (.iconst 0, 1) := by decide +kernel
theorem dX4_readsItem_1 : decode mX4_readsItem.2.1 1 = .ok (.istore_n 1, 1) := by decide +kernel
theorem dX4_readsItem_2 : decode mX4_readsItem.2.1 2 = .ok (.iload_n 1, 1) := by decide +kernel
theorem dX4_readsItem_3 : decode mX4_readsItem.2.1 3 = .ok (.bipush 7, 2) := by decide +kernel
theorem dX4_readsItem_5 : decode mX4_readsItem.2.1 5 = .ok (.if_icmp .ge 47, 3) := by decide +kernel
theorem dX4_readsItem_8 : decode mX4_readsItem.2.1 8 = .ok (.aload_n 0, 1) := by decide +kernel
theorem dX4_readsItem_9 : decode mX4_readsItem.2.1 9 = .ok (.getfield 9, 3) := by decide +kernel
theorem dX4_readsItem_12 : decode mX4_readsItem.2.1 12 = .ok (.iload_n 1, 1) := by decide +kernel
theorem dX4_readsItem_13 : decode mX4_readsItem.2.1 13 = .ok (.invokestatic 38, 3) := by decide +kernel
theorem dX4_readsItem_16 : decode mX4_readsItem.2.1 16 = .ok (.invokevirtual 42, 3) := by decide +kernel
theorem dX4_readsItem_19 : decode mX4_readsItem.2.1 19 = .ok (.ifCond .eq 27, 3) := by decide +kernel
theorem dX4_readsItem_22 : decode mX4_readsItem.2.1 22 = .ok (.aload_n 0, 1) := by decide +kernel
theorem dX4_readsItem_23 : decode mX4_readsItem.2.1 23 = .ok (.getfield 15, 3) := by decide +kernel
theorem dX4_readsItem_26 : decode mX4_readsItem.2.1 26 = .ok (.invokevirtual 46, 3) := by decide +kernel
theorem dX4_readsItem_29 : decode mX4_readsItem.2.1 29 = .ok (.ifCond .ne 15, 3) := by decide +kernel
theorem dX4_readsItem_32 : decode mX4_readsItem.2.1 32 = .ok (.aload_n 0, 1) := by decide +kernel
theorem dX4_readsItem_33 : decode mX4_readsItem.2.1 33 = .ok (.iload_n 1, 1) := by decide +kernel
theorem dX4_readsItem_34 : decode mX4_readsItem.2.1 34 = .ok (.invokevirtual 51, 3) := by decide +kernel
theorem dX4_readsItem_37 : decode mX4_readsItem.2.1 37 = .ok (.ifCond .eq 7, 3) := by decide +kernel
theorem dX4_readsItem_40 : decode mX4_readsItem.2.1 40 = .ok (.iconst 1, 1) := by decide +kernel
theorem dX4_readsItem_41 : decode mX4_readsItem.2.1 41 = .ok (.goto 4, 3) := by decide +kernel
theorem dX4_readsItem_44 : decode mX4_readsItem.2.1 44 = .ok (.iconst 0, 1) := by decide +kernel
theorem dX4_readsItem_45 : decode mX4_readsItem.2.1 45 = .ok (.ireturn, 1) := by decide +kernel
theorem dX4_readsItem_46 : decode mX4_readsItem.2.1 46 = .ok (.iinc 1 1, 3) := by decide +kernel
theorem dX4_readsItem_49 : decode mX4_readsItem.2.1 49 = .ok (.goto (-47), 3) := by decide +kernel
theorem dX4_readsItem_52 : decode mX4_readsItem.2.1 52 = .ok (.iconst 0, 1) := by decide +kernel
theorem dX4_readsItem_53 : decode mX4_readsItem.2.1 53 = .ok (.istore_n 1, 1) := by decide +kernel
theorem dX4_readsItem_54 : decode mX4_readsItem.2.1 54 = .ok (.iload_n 1, 1) := by decide +kernel
theorem dX4_readsItem_55 : decode mX4_readsItem.2.1 55 = .ok (.iconst 3, 1) := by decide +kernel
theorem dX4_readsItem_56 : decode mX4_readsItem.2.1 56 = .ok (.if_icmp .ge 29, 3) := by decide +kernel
theorem dX4_readsItem_59 : decode mX4_readsItem.2.1 59 = .ok (.aload_n 0, 1) := by decide +kernel
theorem dX4_readsItem_60 : decode mX4_readsItem.2.1 60 = .ok (.getfield 9, 3) := by decide +kernel
theorem dX4_readsItem_63 : decode mX4_readsItem.2.1 63 = .ok (.iload_n 1, 1) := by decide +kernel
theorem dX4_readsItem_64 : decode mX4_readsItem.2.1 64 = .ok (.invokestatic 55, 3) := by decide +kernel
theorem dX4_readsItem_67 : decode mX4_readsItem.2.1 67 = .ok (.invokevirtual 42, 3) := by decide +kernel
theorem dX4_readsItem_70 : decode mX4_readsItem.2.1 70 = .ok (.ifCond .eq 9, 3) := by decide +kernel
theorem dX4_readsItem_73 : decode mX4_readsItem.2.1 73 = .ok (.aload_n 0, 1) := by decide +kernel
theorem dX4_readsItem_74 : decode mX4_readsItem.2.1 74 = .ok (.iload_n 1, 1) := by decide +kernel
theorem dX4_readsItem_75 : decode mX4_readsItem.2.1 75 = .ok (.invokevirtual 58, 3) := by decide +kernel
theorem dX4_readsItem_78 : decode mX4_readsItem.2.1 78 = .ok (.ireturn, 1) := by decide +kernel
theorem dX4_readsItem_79 : decode mX4_readsItem.2.1 79 = .ok (.iinc 1 1, 3) := by decide +kernel
theorem dX4_readsItem_82 : decode mX4_readsItem.2.1 82 = .ok (.goto (-28), 3) := by decide +kernel
theorem dX4_readsItem_85 : decode mX4_readsItem.2.1 85 = .ok (.iconst 0, 1) := by decide +kernel
theorem dX4_readsItem_86 : decode mX4_readsItem.2.1 86 = .ok (.ireturn, 1) := by decide +kernel
theorem dX4_readsWeather_0 : decode mX4_readsWeather.2.1 0 = .ok (.aload_n 0, 1) := by decide +kernel
theorem dX4_readsWeather_1 : decode mX4_readsWeather.2.1 1 = .ok (.getfield 9, 3) := by decide +kernel
theorem dX4_readsWeather_4 : decode mX4_readsWeather.2.1 4 = .ok (.invokevirtual 32, 3) := by decide +kernel
theorem dX4_readsWeather_7 : decode mX4_readsWeather.2.1 7 = .ok (.aload_n 0, 1) := by decide +kernel
theorem dX4_readsWeather_8 : decode mX4_readsWeather.2.1 8 = .ok (.getfield 9, 3) := by decide +kernel
theorem dX4_readsWeather_11 : decode mX4_readsWeather.2.1 11 = .ok (.iconst 0, 1) := by decide +kernel
theorem dX4_readsWeather_12 : decode mX4_readsWeather.2.1 12 = .ok (.bipush 99, 2) := by decide +kernel
theorem dX4_readsWeather_14 : decode mX4_readsWeather.2.1 14 = .ok (.invokevirtual 61, 3) := by decide +kernel
theorem dX4_readsWeather_17 : decode mX4_readsWeather.2.1 17 = .ok (.ifCond .ne 5, 3) := by decide +kernel
theorem dX4_readsWeather_20 : decode mX4_readsWeather.2.1 20 = .ok (.iconst 0, 1) := by decide +kernel
theorem dX4_readsWeather_21 : decode mX4_readsWeather.2.1 21 = .ok (.ireturn, 1) := by decide +kernel
theorem dX4_readsWeather_22 : decode mX4_readsWeather.2.1 22 = .ok (.aload_n 0, 1) := by decide +kernel
theorem dX4_readsWeather_23 : decode mX4_readsWeather.2.1 23 = .ok (.getfield 15, 3) := by decide +kernel
theorem dX4_readsWeather_26 : decode mX4_readsWeather.2.1 26 = .ok (.getfield 65, 3) := by decide +kernel
theorem dX4_readsWeather_29 : decode mX4_readsWeather.2.1 29 = .ok (.iload_n 1, 1) := by decide +kernel
theorem dX4_readsWeather_30 : decode mX4_readsWeather.2.1 30 = .ok (.aload_n 0, 1) := by decide +kernel
theorem dX4_readsWeather_31 : decode mX4_readsWeather.2.1 31 = .ok (.getfield 9, 3) := by decide +kernel
theorem dX4_readsWeather_34 : decode mX4_readsWeather.2.1 34 = .ok (.getfield 69, 3) := by decide +kernel
theorem dX4_readsWeather_37 : decode mX4_readsWeather.2.1 37 = .ok (.iastore, 1) := by decide +kernel
theorem dX4_readsWeather_38 : decode mX4_readsWeather.2.1 38 = .ok (.aload_n 0, 1) := by decide +kernel
theorem dX4_readsWeather_39 : decode mX4_readsWeather.2.1 39 = .ok (.getfield 9, 3) := by decide +kernel
theorem dX4_readsWeather_42 : decode mX4_readsWeather.2.1 42 = .ok (.invokevirtual 32, 3) := by decide +kernel
theorem dX4_readsWeather_45 : decode mX4_readsWeather.2.1 45 = .ok (.iconst 1, 1) := by decide +kernel
theorem dX4_readsWeather_46 : decode mX4_readsWeather.2.1 46 = .ok (.ireturn, 1) := by decide +kernel
theorem dX4_readsFarm_0 : decode mX4_readsFarm.2.1 0 = .ok (.aload_n 0, 1) := by decide +kernel
theorem dX4_readsFarm_1 : decode mX4_readsFarm.2.1 1 = .ok (.getfield 9, 3) := by decide +kernel
theorem dX4_readsFarm_4 : decode mX4_readsFarm.2.1 4 = .ok (.invokevirtual 32, 3) := by decide +kernel
theorem dX4_readsFarm_7 : decode mX4_readsFarm.2.1 7 = .ok (.aload_n 0, 1) := by decide +kernel
theorem dX4_readsFarm_8 : decode mX4_readsFarm.2.1 8 = .ok (.getfield 9, 3) := by decide +kernel
theorem dX4_readsFarm_11 : decode mX4_readsFarm.2.1 11 = .ok (.getstatic 72, 3) := by decide +kernel
theorem dX4_readsFarm_14 : decode mX4_readsFarm.2.1 14 = .ok (.iconst 1, 1) := by decide +kernel
theorem dX4_readsFarm_15 : decode mX4_readsFarm.2.1 15 = .ok (.iaload, 1) := by decide +kernel
theorem dX4_readsFarm_16 : decode mX4_readsFarm.2.1 16 = .ok (.getstatic 75, 3) := by decide +kernel
theorem dX4_readsFarm_19 : decode mX4_readsFarm.2.1 19 = .ok (.iconst 1, 1) := by decide +kernel
theorem dX4_readsFarm_20 : decode mX4_readsFarm.2.1 20 = .ok (.iaload, 1) := by decide +kernel
theorem dX4_readsFarm_21 : decode mX4_readsFarm.2.1 21 = .ok (.invokevirtual 61, 3) := by decide +kernel
theorem dX4_readsFarm_24 : decode mX4_readsFarm.2.1 24 = .ok (.ifCond .ne 5, 3) := by decide +kernel
theorem dX4_readsFarm_27 : decode mX4_readsFarm.2.1 27 = .ok (.iconst 0, 1) := by decide +kernel
theorem dX4_readsFarm_28 : decode mX4_readsFarm.2.1 28 = .ok (.ireturn, 1) := by decide +kernel
theorem dX4_readsFarm_29 : decode mX4_readsFarm.2.1 29 = .ok (.aload_n 0, 1) := by decide +kernel
theorem dX4_readsFarm_30 : decode mX4_readsFarm.2.1 30 = .ok (.getfield 15, 3) := by decide +kernel
theorem dX4_readsFarm_33 : decode mX4_readsFarm.2.1 33 = .ok (.getfield 78, 3) := by decide +kernel
theorem dX4_readsFarm_36 : decode mX4_readsFarm.2.1 36 = .ok (.aload_n 0, 1) := by decide +kernel
theorem dX4_readsFarm_37 : decode mX4_readsFarm.2.1 37 = .ok (.getfield 15, 3) := by decide +kernel
theorem dX4_readsFarm_40 : decode mX4_readsFarm.2.1 40 = .ok (.iload_n 1, 1) := by decide +kernel
theorem dX4_readsFarm_41 : decode mX4_readsFarm.2.1 41 = .ok (.aload_n 0, 1) := by decide +kernel
theorem dX4_readsFarm_42 : decode mX4_readsFarm.2.1 42 = .ok (.getfield 9, 3) := by decide +kernel
theorem dX4_readsFarm_45 : decode mX4_readsFarm.2.1 45 = .ok (.getfield 69, 3) := by decide +kernel
theorem dX4_readsFarm_48 : decode mX4_readsFarm.2.1 48 = .ok (.invokevirtual 82, 3) := by decide +kernel
theorem dX4_readsFarm_51 : decode mX4_readsFarm.2.1 51 = .ok (.aaload, 1) := by decide +kernel
theorem dX4_readsFarm_52 : decode mX4_readsFarm.2.1 52 = .ok (.astore_n 2, 1) := by decide +kernel
theorem dX4_readsFarm_53 : decode mX4_readsFarm.2.1 53 = .ok (.aload_n 0, 1) := by decide +kernel
theorem dX4_readsFarm_54 : decode mX4_readsFarm.2.1 54 = .ok (.getfield 9, 3) := by decide +kernel
theorem dX4_readsFarm_57 : decode mX4_readsFarm.2.1 57 = .ok (.invokevirtual 32, 3) := by decide +kernel
theorem dX4_readsFarm_60 : decode mX4_readsFarm.2.1 60 = .ok (.aload_n 0, 1) := by decide +kernel
theorem dX4_readsFarm_61 : decode mX4_readsFarm.2.1 61 = .ok (.aload_n 2, 1) := by decide +kernel
theorem dX4_readsFarm_62 : decode mX4_readsFarm.2.1 62 = .ok (.invokevirtual 86, 3) := by decide +kernel
theorem dX4_readsFarm_65 : decode mX4_readsFarm.2.1 65 = .ok (.ifCond .eq 15, 3) := by decide +kernel
theorem dX4_readsFarm_68 : decode mX4_readsFarm.2.1 68 = .ok (.aload_n 0, 1) := by decide +kernel
theorem dX4_readsFarm_69 : decode mX4_readsFarm.2.1 69 = .ok (.aload_n 2, 1) := by decide +kernel
theorem dX4_readsFarm_70 : decode mX4_readsFarm.2.1 70 = .ok (.invokevirtual 90, 3) := by decide +kernel
theorem dX4_readsFarm_73 : decode mX4_readsFarm.2.1 73 = .ok (.ifCond .eq 7, 3) := by decide +kernel
theorem dX4_readsFarm_76 : decode mX4_readsFarm.2.1 76 = .ok (.iconst 1, 1) := by decide +kernel
theorem dX4_readsFarm_77 : decode mX4_readsFarm.2.1 77 = .ok (.goto 4, 3) := by decide +kernel
theorem dX4_readsFarm_80 : decode mX4_readsFarm.2.1 80 = .ok (.iconst 0, 1) := by decide +kernel
theorem dX4_readsFarm_81 : decode mX4_readsFarm.2.1 81 = .ok (.ireturn, 1) := by decide +kernel
theorem dX4_readsHands_0 : decode mX4_readsHands.2.1 0 = .ok (.aload_n 0, 1) := by decide +kernel
theorem dX4_readsHands_1 : decode mX4_readsHands.2.1 1 = .ok (.getfield 9, 3) := by decide +kernel
theorem dX4_readsHands_4 : decode mX4_readsHands.2.1 4 = .ok (.ldc 93, 2) := by decide +kernel
theorem dX4_readsHands_6 : decode mX4_readsHands.2.1 6 = .ok (.invokevirtual 42, 3) := by decide +kernel
theorem dX4_readsHands_9 : decode mX4_readsHands.2.1 9 = .ok (.ifCond .ne 5, 3) := by decide +kernel
theorem dX4_readsHands_12 : decode mX4_readsHands.2.1 12 = .ok (.iconst 1, 1) := by decide +kernel
theorem dX4_readsHands_13 : decode mX4_readsHands.2.1 13 = .ok (.ireturn, 1) := by decide +kernel
theorem dX4_readsHands_14 : decode mX4_readsHands.2.1 14 = .ok (.aload_n 0, 1) := by decide +kernel
theorem dX4_readsHands_15 : decode mX4_readsHands.2.1 15 = .ok (.getfield 9, 3) := by decide +kernel
theorem dX4_readsHands_18 : decode mX4_readsHands.2.1 18 = .ok (.invokevirtual 32, 3) := by decide +kernel
theorem dX4_readsHands_21 : decode mX4_readsHands.2.1 21 = .ok (.aload_n 0, 1) := by decide +kernel
theorem dX4_readsHands_22 : decode mX4_readsHands.2.1 22 = .ok (.getfield 9, 3) := by decide +kernel
theorem dX4_readsHands_25 : decode mX4_readsHands.2.1 25 = .ok (.getstatic 72, 3) := by decide +kernel
theorem dX4_readsHands_28 : decode mX4_readsHands.2.1 28 = .ok (.iconst 2, 1) := by decide +kernel
theorem dX4_readsHands_29 : decode mX4_readsHands.2.1 29 = .ok (.iaload, 1) := by decide +kernel
theorem dX4_readsHands_30 : decode mX4_readsHands.2.1 30 = .ok (.getstatic 75, 3) := by decide +kernel
theorem dX4_readsHands_33 : decode mX4_readsHands.2.1 33 = .ok (.iconst 2, 1) := by decide +kernel
theorem dX4_readsHands_34 : decode mX4_readsHands.2.1 34 = .ok (.iaload, 1) := by decide +kernel
theorem dX4_readsHands_35 : decode mX4_readsHands.2.1 35 = .ok (.invokevirtual 61, 3) := by decide +kernel
theorem dX4_readsHands_38 : decode mX4_readsHands.2.1 38 = .ok (.ifCond .ne 5, 3) := by decide +kernel
theorem dX4_readsHands_41 : decode mX4_readsHands.2.1 41 = .ok (.iconst 0, 1) := by decide +kernel
theorem dX4_readsHands_42 : decode mX4_readsHands.2.1 42 = .ok (.ireturn, 1) := by decide +kernel
theorem dX4_readsHands_43 : decode mX4_readsHands.2.1 43 = .ok (.aload_n 1, 1) := by decide +kernel
theorem dX4_readsHands_44 : decode mX4_readsHands.2.1 44 = .ok (.iconst 2, 1) := by decide +kernel
theorem dX4_readsHands_45 : decode mX4_readsHands.2.1 45 = .ok (.aload_n 0, 1) := by decide +kernel
theorem dX4_readsHands_46 : decode mX4_readsHands.2.1 46 = .ok (.getfield 9, 3) := by decide +kernel
theorem dX4_readsHands_49 : decode mX4_readsHands.2.1 49 = .ok (.getfield 69, 3) := by decide +kernel
theorem dX4_readsHands_52 : decode mX4_readsHands.2.1 52 = .ok (.invokevirtual 95, 3) := by decide +kernel
theorem dX4_readsHands_55 : decode mX4_readsHands.2.1 55 = .ok (.aload_n 0, 1) := by decide +kernel
theorem dX4_readsHands_56 : decode mX4_readsHands.2.1 56 = .ok (.getfield 9, 3) := by decide +kernel
theorem dX4_readsHands_59 : decode mX4_readsHands.2.1 59 = .ok (.invokevirtual 32, 3) := by decide +kernel
theorem dX4_readsHands_62 : decode mX4_readsHands.2.1 62 = .ok (.iconst 1, 1) := by decide +kernel
theorem dX4_readsHands_63 : decode mX4_readsHands.2.1 63 = .ok (.ireturn, 1) := by decide +kernel
theorem dX4_readsOpinion_0 : decode mX4_readsOpinion.2.1 0 = .ok (.aload_n 0, 1) := by decide +kernel
theorem dX4_readsOpinion_1 : decode mX4_readsOpinion.2.1 1 = .ok (.getfield 9, 3) := by decide +kernel
theorem dX4_readsOpinion_4 : decode mX4_readsOpinion.2.1 4 = .ok (.ldc 101, 2) := by decide +kernel
theorem dX4_readsOpinion_6 : decode mX4_readsOpinion.2.1 6 = .ok (.invokevirtual 42, 3) := by decide +kernel
theorem dX4_readsOpinion_9 : decode mX4_readsOpinion.2.1 9 = .ok (.ifCond .ne 5, 3) := by decide +kernel
theorem dX4_readsOpinion_12 : decode mX4_readsOpinion.2.1 12 = .ok (.iconst 1, 1) := by decide +kernel
theorem dX4_readsOpinion_13 : decode mX4_readsOpinion.2.1 13 = .ok (.ireturn, 1) := by decide +kernel
theorem dX4_readsOpinion_14 : decode mX4_readsOpinion.2.1 14 = .ok (.aload_n 0, 1) := by decide +kernel
theorem dX4_readsOpinion_15 : decode mX4_readsOpinion.2.1 15 = .ok (.getfield 9, 3) := by decide +kernel
theorem dX4_readsOpinion_18 : decode mX4_readsOpinion.2.1 18 = .ok (.invokevirtual 32, 3) := by decide +kernel
theorem dX4_readsOpinion_21 : decode mX4_readsOpinion.2.1 21 = .ok (.aload_n 0, 1) := by decide +kernel
theorem dX4_readsOpinion_22 : decode mX4_readsOpinion.2.1 22 = .ok (.getfield 9, 3) := by decide +kernel
theorem dX4_readsOpinion_25 : decode mX4_readsOpinion.2.1 25 = .ok (.getfield 28, 3) := by decide +kernel
theorem dX4_readsOpinion_28 : decode mX4_readsOpinion.2.1 28 = .ok (.iconst 3, 1) := by decide +kernel
theorem dX4_readsOpinion_29 : decode mX4_readsOpinion.2.1 29 = .ok (.if_icmp .ne 7, 3) := by decide +kernel
theorem dX4_readsOpinion_32 : decode mX4_readsOpinion.2.1 32 = .ok (.iconst 1, 1) := by decide +kernel
theorem dX4_readsOpinion_33 : decode mX4_readsOpinion.2.1 33 = .ok (.goto 4, 3) := by decide +kernel
theorem dX4_readsOpinion_36 : decode mX4_readsOpinion.2.1 36 = .ok (.iconst 0, 1) := by decide +kernel
theorem dX4_readsOpinion_37 : decode mX4_readsOpinion.2.1 37 = .ok (.istore_n 2, 1) := by decide +kernel
theorem dX4_readsOpinion_38 : decode mX4_readsOpinion.2.1 38 = .ok (.iload_n 2, 1) := by decide +kernel
theorem dX4_readsOpinion_39 : decode mX4_readsOpinion.2.1 39 = .ok (.ifCond .eq 10, 3) := by decide +kernel
theorem dX4_readsOpinion_42 : decode mX4_readsOpinion.2.1 42 = .ok (.aload_n 0, 1) := by decide +kernel
theorem dX4_readsOpinion_43 : decode mX4_readsOpinion.2.1 43 = .ok (.getfield 9, 3) := by decide +kernel
theorem dX4_readsOpinion_46 : decode mX4_readsOpinion.2.1 46 = .ok (.invokevirtual 32, 3) := by decide +kernel
theorem dX4_readsOpinion_49 : decode mX4_readsOpinion.2.1 49 = .ok (.aload_n 0, 1) := by decide +kernel
theorem dX4_readsOpinion_50 : decode mX4_readsOpinion.2.1 50 = .ok (.getfield 9, 3) := by decide +kernel
theorem dX4_readsOpinion_53 : decode mX4_readsOpinion.2.1 53 = .ok (.iconst 0, 1) := by decide +kernel
theorem dX4_readsOpinion_54 : decode mX4_readsOpinion.2.1 54 = .ok (.getstatic 75, 3) := by decide +kernel
theorem dX4_readsOpinion_57 : decode mX4_readsOpinion.2.1 57 = .ok (.iconst 3, 1) := by decide +kernel
theorem dX4_readsOpinion_58 : decode mX4_readsOpinion.2.1 58 = .ok (.iaload, 1) := by decide +kernel
theorem dX4_readsOpinion_59 : decode mX4_readsOpinion.2.1 59 = .ok (.invokevirtual 61, 3) := by decide +kernel
theorem dX4_readsOpinion_62 : decode mX4_readsOpinion.2.1 62 = .ok (.ifCond .ne 5, 3) := by decide +kernel
theorem dX4_readsOpinion_65 : decode mX4_readsOpinion.2.1 65 = .ok (.iconst 0, 1) := by decide +kernel
theorem dX4_readsOpinion_66 : decode mX4_readsOpinion.2.1 66 = .ok (.ireturn, 1) := by decide +kernel
theorem dX4_readsOpinion_67 : decode mX4_readsOpinion.2.1 67 = .ok (.aload_n 1, 1) := by decide +kernel
theorem dX4_readsOpinion_68 : decode mX4_readsOpinion.2.1 68 = .ok (.iconst 3, 1) := by decide +kernel
theorem dX4_readsOpinion_69 : decode mX4_readsOpinion.2.1 69 = .ok (.iload_n 2, 1) := by decide +kernel
theorem dX4_readsOpinion_70 : decode mX4_readsOpinion.2.1 70 = .ok (.ifCond .eq 14, 3) := by decide +kernel
theorem dX4_readsOpinion_73 : decode mX4_readsOpinion.2.1 73 = .ok (.aload_n 0, 1) := by decide +kernel
theorem dX4_readsOpinion_74 : decode mX4_readsOpinion.2.1 74 = .ok (.getfield 9, 3) := by decide +kernel
theorem dX4_readsOpinion_77 : decode mX4_readsOpinion.2.1 77 = .ok (.getfield 69, 3) := by decide +kernel
theorem dX4_readsOpinion_80 : decode mX4_readsOpinion.2.1 80 = .ok (.ineg, 1) := by decide +kernel
theorem dX4_readsOpinion_81 : decode mX4_readsOpinion.2.1 81 = .ok (.goto 10, 3) := by decide +kernel
theorem dX4_readsOpinion_84 : decode mX4_readsOpinion.2.1 84 = .ok (.aload_n 0, 1) := by decide +kernel
theorem dX4_readsOpinion_85 : decode mX4_readsOpinion.2.1 85 = .ok (.getfield 9, 3) := by decide +kernel
theorem dX4_readsOpinion_88 : decode mX4_readsOpinion.2.1 88 = .ok (.getfield 69, 3) := by decide +kernel
theorem dX4_readsOpinion_91 : decode mX4_readsOpinion.2.1 91 = .ok (.invokevirtual 95, 3) := by decide +kernel
theorem dX4_readsOpinion_94 : decode mX4_readsOpinion.2.1 94 = .ok (.aload_n 0, 1) := by decide +kernel
theorem dX4_readsOpinion_95 : decode mX4_readsOpinion.2.1 95 = .ok (.getfield 9, 3) := by decide +kernel
theorem dX4_readsOpinion_98 : decode mX4_readsOpinion.2.1 98 = .ok (.invokevirtual 32, 3) := by decide +kernel
theorem dX4_readsOpinion_101 : decode mX4_readsOpinion.2.1 101 = .ok (.iconst 1, 1) := by decide +kernel
theorem dX4_readsOpinion_102 : decode mX4_readsOpinion.2.1 102 = .ok (.ireturn, 1) := by decide +kernel
theorem dX4_wordOfKind_0 : decode mX4_wordOfKind.2.1 0 = .ok (.iload_n 0, 1) := by decide +kernel
theorem dX4_wordOfKind_1 : decode mX4_wordOfKind.2.1 1 = .ok (.tableswitch 57 0 5 #[39, 42, 45, 48, 51, 54], 39) := by decide +kernel
theorem dX4_wordOfKind_40 : decode mX4_wordOfKind.2.1 40 = .ok (.ldc 103, 2) := by decide +kernel
theorem dX4_wordOfKind_42 : decode mX4_wordOfKind.2.1 42 = .ok (.areturn, 1) := by decide +kernel
theorem dX4_wordOfKind_43 : decode mX4_wordOfKind.2.1 43 = .ok (.ldc 105, 2) := by decide +kernel
theorem dX4_wordOfKind_45 : decode mX4_wordOfKind.2.1 45 = .ok (.areturn, 1) := by decide +kernel
theorem dX4_wordOfKind_46 : decode mX4_wordOfKind.2.1 46 = .ok (.ldc 107, 2) := by decide +kernel
theorem dX4_wordOfKind_48 : decode mX4_wordOfKind.2.1 48 = .ok (.areturn, 1) := by decide +kernel
theorem dX4_wordOfKind_49 : decode mX4_wordOfKind.2.1 49 = .ok (.ldc 109, 2) := by decide +kernel
theorem dX4_wordOfKind_51 : decode mX4_wordOfKind.2.1 51 = .ok (.areturn, 1) := by decide +kernel
theorem dX4_wordOfKind_52 : decode mX4_wordOfKind.2.1 52 = .ok (.ldc 111, 2) := by decide +kernel
theorem dX4_wordOfKind_54 : decode mX4_wordOfKind.2.1 54 = .ok (.areturn, 1) := by decide +kernel
theorem dX4_wordOfKind_55 : decode mX4_wordOfKind.2.1 55 = .ok (.ldc 113, 2) := by decide +kernel
theorem dX4_wordOfKind_57 : decode mX4_wordOfKind.2.1 57 = .ok (.areturn, 1) := by decide +kernel
theorem dX4_wordOfKind_58 : decode mX4_wordOfKind.2.1 58 = .ok (.ldc 115, 2) := by decide +kernel
theorem dX4_wordOfKind_60 : decode mX4_wordOfKind.2.1 60 = .ok (.areturn, 1) := by decide +kernel
theorem dX4_wordOfWeather_0 : decode mX4_wordOfWeather.2.1 0 = .ok (.iload_n 0, 1) := by decide +kernel
theorem dX4_wordOfWeather_1 : decode mX4_wordOfWeather.2.1 1 = .ok (.lookupswitch 33 #[(0, 27), (1, 30)], 27) := by decide +kernel
theorem dX4_wordOfWeather_28 : decode mX4_wordOfWeather.2.1 28 = .ok (.ldc 117, 2) := by decide +kernel
theorem dX4_wordOfWeather_30 : decode mX4_wordOfWeather.2.1 30 = .ok (.areturn, 1) := by decide +kernel
theorem dX4_wordOfWeather_31 : decode mX4_wordOfWeather.2.1 31 = .ok (.ldc 119, 2) := by decide +kernel
theorem dX4_wordOfWeather_33 : decode mX4_wordOfWeather.2.1 33 = .ok (.areturn, 1) := by decide +kernel
theorem dX4_wordOfWeather_34 : decode mX4_wordOfWeather.2.1 34 = .ok (.ldc 121, 2) := by decide +kernel
theorem dX4_wordOfWeather_36 : decode mX4_wordOfWeather.2.1 36 = .ok (.areturn, 1) := by decide +kernel
